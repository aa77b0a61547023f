/-! THE MAKERS' CONTRACTS -/
def tbW (h0 q1 q2 : Nat) (r : Nat → Nat) (cI cA : ClassId) : va_W := (h0, .inr (4, [.int 0, .int 0, .ref q1, .ref q2])) :: (q1, .inl (cI, zrs 7)) :: (q2, .inl (cA, rfs 7 r)) :: (List.range 7).map (fun i => (r i, .inl (cI, zrs 7)))
def tbT (cI cA : ClassId) : List (ClassId × FieldType) := [(cI, .int), (cA, .array .int)]
def pTB (h0 : Nat) (W : va_W) (T : List (ClassId × FieldType)) : Prop := ∃ (q1 q2 : Nat) (r : Nat → Nat) (cI cA : ClassId), W = tbW h0 q1 q2 r cI cA ∧ T = tbT cI cA
def hsF (t0 t1 t2 t3 : Nat) : Nat → Option Nat := va_up (va_up (va_up (va_up (fun _ => none) 0 (some t0)) 1 (some t1)) 2 (some t2)) 3 (some t3)
def hsW (h0 qs : Nat) (cS : ClassId) (t0 t1 t2 t3 : Nat) (w0 w1 w2 w3 : va_W) : va_W := (h0, .inr (0, [.int 0, .ref qs])) :: (qs, .inl (cS, 4, .inr (.inr (.inr (.inr (hsF t0 t1 t2 t3)))))) :: (w0 ++ (w1 ++ (w2 ++ w3)))
def pHS (h0 : Nat) (W : va_W) (T : List (ClassId × FieldType)) : Prop := ∃ (qs : Nat) (cS : ClassId) (t0 t1 t2 t3 : Nat) (w0 w1 w2 w3 : va_W) (T0 T1 T2 T3 : List (ClassId × FieldType)), pTB t0 w0 T0 ∧ pTB t1 w1 T1 ∧ pTB t2 w2 T2 ∧ pTB t3 w3 T3 ∧ W = hsW h0 qs cS t0 t1 t2 t3 w0 w1 w2 w3 ∧ T = (cS, .object RX4) :: (T0 ++ (T1 ++ (T2 ++ T3)))
def plW (h0 t q1 q2 : Nat) (r : Nat → Nat) (cI cA : ClassId) : va_W := (h0, .inr (1, [.ref q1, .int 0, .ref t, .ref q2])) :: (q1, .inl (cI, zrs 7)) :: (q2, .inl (cA, rfs 8 r)) :: (List.range 8).map (fun i => (r i, .inl (cI, zrs 128)))
def pPL (h0 t : Nat) (W : va_W) (T : List (ClassId × FieldType)) : Prop := ∃ (q1 q2 : Nat) (r : Nat → Nat) (cI cA : ClassId), W = plW h0 t q1 q2 r cI cA ∧ T = tbT cI cA
def pPR (h0 t p : Nat) (W : va_W) (T : List (ClassId × FieldType)) : Prop := ∃ (q1 : Nat) (cI : ClassId), W = [(h0, .inr (2, [.ref q1, .ref t, .ref p])), (q1, .inl (cI, zrs 7))] ∧ T = [(cI, .int)]
def pTX (h0 : Nat) (W : va_W) (T : List (ClassId × FieldType)) : Prop := ∃ (q1 : Nat) (cC : ClassId), W = [(h0, .inr (5, [.int 0, .ref q1])), (q1, .inl (cC, zrs 80))] ∧ T = [(cC, .char)]
def pRD (h0 x : Nat) (W : va_W) (T : List (ClassId × FieldType)) : Prop := ∃ (t : Nat) (w : va_W), pTB t w T ∧ W = (h0, .inr (3, [.int 0, .int 0, .ref t, .ref x])) :: w
def pPP (h0 : Nat) (W : va_W) (T : List (ClassId × FieldType)) : Prop := ∃ (t h p r x d : Nat) (wt wh wp wr wx wd : va_W) (Tt Th Tp Tr Tx Td : List (ClassId × FieldType)), pTB t wt Tt ∧ pHS h wh Th ∧ pPL p t wp Tp ∧ pPR r t p wr Tr ∧ pTX x wx Tx ∧ pRD d x wd Td ∧ W = (h0, .inr (6, [.ref t, .ref h, .ref p, .ref r, .ref x, .ref d])) :: (wt ++ (wh ++ (wp ++ (wr ++ (wx ++ wd))))) ∧ T = Tt ++ (Th ++ (Tp ++ (Tr ++ (Tx ++ Td))))
theorem fs_d {ty : Nat → FieldType} {N : Nat} {fs : List Value} (h : (List.range N).all (fun j => decide (defaultValue (ty j) = vp_V fs j)) = true) : ∀ j, j < N → defaultValue (ty j) = vp_V fs j := fun j hj => of_decide_eq_true (List.all_eq_true.mp h j (List.mem_range.mpr hj))
set_option maxHeartbeats 4000000 in
set_option maxRecDepth 100000 in
theorem k_X4_init (E0 : EV) (h0 : Nat) : MIE E0 yX4_init wsX4_init 1 12 9 63 4 [.int 0, .int 0, .null, .null] [] h0 (pTB h0) := by
  refine MIE.of (cc := cX4_init) (maxL := 1) (own := RX4) [some (.ref h0)] (by decide +kernel) rfl rfl rfl (Nat.le_of_ble_eq_true rfl) rfl rfl (fun E _ X hE hr => ?_)
  refine c_aload0 X dX4_init_0 ?_
  refine c_obj X (by decide +kernel) (by decide +kernel) (by decide +kernel) ⟨(Nat.le_of_ble_eq_true rfl), (Nat.le_of_ble_eq_true rfl)⟩ rfl dX4_init_1 ?_
  refine c_aload0 X dX4_init_4 ?_
  refine c_bipush X dX4_init_5 rfl ?_
  refine c_newa X (atype := .int) (ty := .int) (N := 7) rfl (by decide +kernel) (fun _ => rfl) (by decide +kernel) (by decide +kernel) (Nat.le_of_ble_eq_true rfl) (Nat.le_of_ble_eq_true rfl) (Nat.le_of_ble_eq_true rfl) dX4_init_7 (fun q1 cI => ?_)
  refine c_putF X (C := RX4) (T := TX4) (N := 4) (ci := 4) (j := 2) (q0 := 0) (ty0 := tyX4) (ty := tyX4 2) (ws2 := [(h0, .inr (4, [.int 0, .int 0, .ref q1, .null])), (q1, .inl (cI, zrs 7))]) rfl rfl (fun w h => List.mem_cons_of_mem _ (List.mem_append_right _ h)) tyX4_ok nmX4 (Nat.le_of_ble_eq_true rfl) rfl (by decide +kernel) rfl hE rfl (tyX4_ok 2 (Nat.le_of_ble_eq_true rfl)) rfl rfl (Nat.le_of_ble_eq_true rfl) rfl dX4_init_9 ?_
  refine c_aload0 X dX4_init_12 ?_
  refine c_bipush X dX4_init_13 rfl ?_
  refine c_bipush X dX4_init_15 rfl ?_
  refine c_mna X (N := 7) (K := 7) (t0 := 0) (by decide +kernel) (by decide +kernel) rfl (by decide +kernel) (by decide +kernel) (by decide +kernel) (by decide +kernel) ⟨(Nat.le_of_ble_eq_true rfl), (Nat.le_of_ble_eq_true rfl)⟩ (Nat.le_of_ble_eq_true rfl) (Nat.le_of_ble_eq_true rfl) dX4_init_17 (fun q2 r cA => ?_)
  refine c_putF X (C := RX4) (T := TX4) (N := 4) (ci := 4) (j := 3) (q0 := 0) (ty0 := tyX4) (ty := tyX4 3) (ws2 := tbW h0 q1 q2 r cI cA) rfl rfl (fun w h => List.mem_cons_of_mem _ (List.mem_append_right _ h)) tyX4_ok nmX4 (Nat.le_of_ble_eq_true rfl) rfl (by decide +kernel) rfl hE rfl (tyX4_ok 3 (Nat.le_of_ble_eq_true rfl)) rfl rfl (Nat.le_of_ble_eq_true rfl) rfl dX4_init_21 ?_
  exact c_ret X hr (⟨q1, q2, r, cI, cA, rfl, rfl⟩) (Nat.le_of_ble_eq_true rfl) (Nat.le_of_ble_eq_true rfl) dX4_init_24
set_option maxHeartbeats 4000000 in
set_option maxRecDepth 100000 in
theorem k_X0_init (E0 : EV) (h0 : Nat) : MIE E0 yX0_init wsX0_init 2 32 41 272 0 [.int 0, .null] [] h0 (pHS h0) := by
  refine MIE.of (cc := cX0_init) (maxL := 2) (own := RX0) [some (.ref h0), none] (by decide +kernel) rfl rfl rfl (Nat.le_of_ble_eq_true rfl) rfl rfl (fun E _ X hE hr => ?_)
  refine c_aload0 X dX0_init_0 ?_
  refine c_obj X (by decide +kernel) (by decide +kernel) (by decide +kernel) ⟨(Nat.le_of_ble_eq_true rfl), (Nat.le_of_ble_eq_true rfl)⟩ rfl dX0_init_1 ?_
  refine c_aload0 X dX0_init_4 ?_
  refine c_iconst X dX0_init_5 ?_
  refine c_newq X (N := 4) (by decide +kernel) (by decide +kernel) (by decide +kernel) (Nat.le_of_ble_eq_true rfl) (Nat.le_of_ble_eq_true rfl) (Nat.le_of_ble_eq_true rfl) dX0_init_6 (fun qs cS => ?_)
  refine c_putF X (C := RX0) (T := TX0) (N := 2) (ci := 0) (j := 1) (q0 := 0) (ty0 := tyX0) (ty := tyX0 1) (ws2 := [(h0, .inr (0, [.int 0, .ref qs])), (qs, .inl (cS, 4, .inr (.inr (.inr (.inr (fun _ => none))))))]) rfl rfl (fun w h => List.mem_cons_of_mem _ (List.mem_append_left _ (List.mem_append_right _ h))) tyX0_ok nmX0 (Nat.le_of_ble_eq_true rfl) rfl (by decide +kernel) rfl hE rfl (tyX0_ok 1 (Nat.le_of_ble_eq_true rfl)) rfl rfl (Nat.le_of_ble_eq_true rfl) rfl dX0_init_9 ?_
  refine c_iconst X dX0_init_12 ?_
  refine c_istore1 X dX0_init_13 (by decide) (Or.inr ⟨_, rfl, rfl⟩) ?_
  refine c_iload1 X dX0_init_14 ?_
  refine c_iconst X dX0_init_15 ?_
  refine c_icmp_geF X (by decide +kernel) dX0_init_16 (tgt := 38) (by decide) ?_
  refine c_aload0 X dX0_init_19 ?_
  refine c_get X (C := RX0) (T := TX0) (N := 2) (ci := 0) (j := 1) (q0 := 0) rfl rfl (fun w h => List.mem_cons_of_mem _ (List.mem_append_left _ (List.mem_append_right _ h))) (Nat.le_of_ble_eq_true rfl) rfl (by decide +kernel) rfl dX0_init_20 ?_
  refine c_iload1 X dX0_init_23 ?_
  refine c_new X (C := RX4) (T := TX4) (N := 4) (ci := 4) (ty := tyX4) (fs := [.int 0, .int 0, .null, .null]) (by decide +kernel) (by decide +kernel) (by decide +kernel) (fun w h => List.mem_cons_of_mem _ (List.mem_append_right _ h)) tyX4_ok rfl (fs_d (by decide +kernel)) (Nat.le_of_ble_eq_true rfl) (Nat.le_of_ble_eq_true rfl) dX0_init_24 (fun t0 => ?_)
  refine c_dup X dX0_init_27 rfl ?_
  refine c_init X (As := []) (na := 0) (k_X4_init E t0) gX0_init_X4_init rfl (by decide +kernel) (by decide +kernel) (by decide +kernel) rfl (by decide +kernel) rfl ⟨(Nat.le_of_ble_eq_true rfl), (Nat.le_of_ble_eq_true rfl)⟩ (Nat.le_of_ble_eq_true rfl) (Nat.le_of_ble_eq_true rfl) (Nat.le_of_ble_eq_true rfl) dX0_init_28 (fun w0 T0 hp0 => ?_)
  obtain ⟨q10, q20, r0, cI0, cA0, hw0, hT0⟩ := id hp0
  have hh0 : w0 = (t0, .inr (4, [.int 0, .int 0, .ref q10, .ref q20])) :: w0.tail := by rw [hw0]; rfl
  refine c_astq X (ws2 := ([(h0, .inr (0, [.int 0, .ref qs])), (qs, .inl (cS, 4, .inr (.inr (.inr (.inr (va_up (fun _ => none) 0 (some t0)))))))] ++ w0)) (q0 := 1) (t0 := 0) (qk := 2) (N := 4) (cA := cS) (f := fun _ => none) (vs := [.int 0, .int 0, .ref q10, .ref q20]) (by rw [hw0]; rfl) rfl (by rw [hw0]; rfl) (iI_vp (by decide) (by decide) ⟨by decide, by decide⟩) rfl dX0_init_31 ?_
  refine c_iinc1 X dX0_init_32 (by decide) (Or.inr ⟨_, rfl, rfl⟩) ?_
  refine c_goto X dX0_init_35 (tgt := 14) (by decide) ?_
  refine c_iload1 X dX0_init_14 ?_
  refine c_iconst X dX0_init_15 ?_
  refine c_icmp_geF X (by decide +kernel) dX0_init_16 (tgt := 38) (by decide) ?_
  refine c_aload0 X dX0_init_19 ?_
  refine c_get X (C := RX0) (T := TX0) (N := 2) (ci := 0) (j := 1) (q0 := 0) rfl rfl (fun w h => List.mem_cons_of_mem _ (List.mem_append_left _ (List.mem_append_right _ h))) (Nat.le_of_ble_eq_true rfl) rfl (by decide +kernel) rfl dX0_init_20 ?_
  refine c_iload1 X dX0_init_23 ?_
  refine c_new X (C := RX4) (T := TX4) (N := 4) (ci := 4) (ty := tyX4) (fs := [.int 0, .int 0, .null, .null]) (by decide +kernel) (by decide +kernel) (by decide +kernel) (fun w h => List.mem_cons_of_mem _ (List.mem_append_right _ h)) tyX4_ok rfl (fs_d (by decide +kernel)) (Nat.le_of_ble_eq_true rfl) (Nat.le_of_ble_eq_true rfl) dX0_init_24 (fun t1 => ?_)
  refine c_dup X dX0_init_27 rfl ?_
  refine c_init X (As := []) (na := 0) (k_X4_init E t1) gX0_init_X4_init rfl (by decide +kernel) (by decide +kernel) (by decide +kernel) rfl (by decide +kernel) rfl ⟨(Nat.le_of_ble_eq_true rfl), (Nat.le_of_ble_eq_true rfl)⟩ (Nat.le_of_ble_eq_true rfl) (Nat.le_of_ble_eq_true rfl) (Nat.le_of_ble_eq_true rfl) dX0_init_28 (fun w1 T1 hp1 => ?_)
  obtain ⟨q11, q21, r1, cI1, cA1, hw1, hT1⟩ := id hp1
  have hh1 : w1 = (t1, .inr (4, [.int 0, .int 0, .ref q11, .ref q21])) :: w1.tail := by rw [hw1]; rfl
  refine c_astq X (ws2 := (([(h0, .inr (0, [.int 0, .ref qs])), (qs, .inl (cS, 4, .inr (.inr (.inr (.inr (va_up (va_up (fun _ => none) 0 (some t0)) 1 (some t1)))))))] ++ w0) ++ w1)) (q0 := 1) (t0 := 0) (qk := 12) (N := 4) (cA := cS) (f := va_up (fun _ => none) 0 (some t0)) (vs := [.int 0, .int 0, .ref q11, .ref q21]) (by rw [hw0]; rw [hw1]; rfl) rfl (by rw [hw0]; rw [hw1]; rfl) (iI_vp (by decide) (by decide) ⟨by decide, by decide⟩) rfl dX0_init_31 ?_
  refine c_iinc1 X dX0_init_32 (by decide) (Or.inr ⟨_, rfl, rfl⟩) ?_
  refine c_goto X dX0_init_35 (tgt := 14) (by decide) ?_
  refine c_iload1 X dX0_init_14 ?_
  refine c_iconst X dX0_init_15 ?_
  refine c_icmp_geF X (by decide +kernel) dX0_init_16 (tgt := 38) (by decide) ?_
  refine c_aload0 X dX0_init_19 ?_
  refine c_get X (C := RX0) (T := TX0) (N := 2) (ci := 0) (j := 1) (q0 := 0) rfl rfl (fun w h => List.mem_cons_of_mem _ (List.mem_append_left _ (List.mem_append_right _ h))) (Nat.le_of_ble_eq_true rfl) rfl (by decide +kernel) rfl dX0_init_20 ?_
  refine c_iload1 X dX0_init_23 ?_
  refine c_new X (C := RX4) (T := TX4) (N := 4) (ci := 4) (ty := tyX4) (fs := [.int 0, .int 0, .null, .null]) (by decide +kernel) (by decide +kernel) (by decide +kernel) (fun w h => List.mem_cons_of_mem _ (List.mem_append_right _ h)) tyX4_ok rfl (fs_d (by decide +kernel)) (Nat.le_of_ble_eq_true rfl) (Nat.le_of_ble_eq_true rfl) dX0_init_24 (fun t2 => ?_)
  refine c_dup X dX0_init_27 rfl ?_
  refine c_init X (As := []) (na := 0) (k_X4_init E t2) gX0_init_X4_init rfl (by decide +kernel) (by decide +kernel) (by decide +kernel) rfl (by decide +kernel) rfl ⟨(Nat.le_of_ble_eq_true rfl), (Nat.le_of_ble_eq_true rfl)⟩ (Nat.le_of_ble_eq_true rfl) (Nat.le_of_ble_eq_true rfl) (Nat.le_of_ble_eq_true rfl) dX0_init_28 (fun w2 T2 hp2 => ?_)
  obtain ⟨q12, q22, r2, cI2, cA2, hw2, hT2⟩ := id hp2
  have hh2 : w2 = (t2, .inr (4, [.int 0, .int 0, .ref q12, .ref q22])) :: w2.tail := by rw [hw2]; rfl
  refine c_astq X (ws2 := ((([(h0, .inr (0, [.int 0, .ref qs])), (qs, .inl (cS, 4, .inr (.inr (.inr (.inr (va_up (va_up (va_up (fun _ => none) 0 (some t0)) 1 (some t1)) 2 (some t2)))))))] ++ w0) ++ w1) ++ w2)) (q0 := 1) (t0 := 0) (qk := 22) (N := 4) (cA := cS) (f := va_up (va_up (fun _ => none) 0 (some t0)) 1 (some t1)) (vs := [.int 0, .int 0, .ref q12, .ref q22]) (by rw [hw0]; rw [hw1]; rw [hw2]; rfl) rfl (by rw [hw0]; rw [hw1]; rw [hw2]; rfl) (iI_vp (by decide) (by decide) ⟨by decide, by decide⟩) rfl dX0_init_31 ?_
  refine c_iinc1 X dX0_init_32 (by decide) (Or.inr ⟨_, rfl, rfl⟩) ?_
  refine c_goto X dX0_init_35 (tgt := 14) (by decide) ?_
  refine c_iload1 X dX0_init_14 ?_
  refine c_iconst X dX0_init_15 ?_
  refine c_icmp_geF X (by decide +kernel) dX0_init_16 (tgt := 38) (by decide) ?_
  refine c_aload0 X dX0_init_19 ?_
  refine c_get X (C := RX0) (T := TX0) (N := 2) (ci := 0) (j := 1) (q0 := 0) rfl rfl (fun w h => List.mem_cons_of_mem _ (List.mem_append_left _ (List.mem_append_right _ h))) (Nat.le_of_ble_eq_true rfl) rfl (by decide +kernel) rfl dX0_init_20 ?_
  refine c_iload1 X dX0_init_23 ?_
  refine c_new X (C := RX4) (T := TX4) (N := 4) (ci := 4) (ty := tyX4) (fs := [.int 0, .int 0, .null, .null]) (by decide +kernel) (by decide +kernel) (by decide +kernel) (fun w h => List.mem_cons_of_mem _ (List.mem_append_right _ h)) tyX4_ok rfl (fs_d (by decide +kernel)) (Nat.le_of_ble_eq_true rfl) (Nat.le_of_ble_eq_true rfl) dX0_init_24 (fun t3 => ?_)
  refine c_dup X dX0_init_27 rfl ?_
  refine c_init X (As := []) (na := 0) (k_X4_init E t3) gX0_init_X4_init rfl (by decide +kernel) (by decide +kernel) (by decide +kernel) rfl (by decide +kernel) rfl ⟨(Nat.le_of_ble_eq_true rfl), (Nat.le_of_ble_eq_true rfl)⟩ (Nat.le_of_ble_eq_true rfl) (Nat.le_of_ble_eq_true rfl) (Nat.le_of_ble_eq_true rfl) dX0_init_28 (fun w3 T3 hp3 => ?_)
  obtain ⟨q13, q23, r3, cI3, cA3, hw3, hT3⟩ := id hp3
  have hh3 : w3 = (t3, .inr (4, [.int 0, .int 0, .ref q13, .ref q23])) :: w3.tail := by rw [hw3]; rfl
  refine c_astq X (ws2 := (((([(h0, .inr (0, [.int 0, .ref qs])), (qs, .inl (cS, 4, .inr (.inr (.inr (.inr (va_up (va_up (va_up (va_up (fun _ => none) 0 (some t0)) 1 (some t1)) 2 (some t2)) 3 (some t3)))))))] ++ w0) ++ w1) ++ w2) ++ w3)) (q0 := 1) (t0 := 0) (qk := 32) (N := 4) (cA := cS) (f := va_up (va_up (va_up (fun _ => none) 0 (some t0)) 1 (some t1)) 2 (some t2)) (vs := [.int 0, .int 0, .ref q13, .ref q23]) (by rw [hw0]; rw [hw1]; rw [hw2]; rw [hw3]; rfl) rfl (by rw [hw0]; rw [hw1]; rw [hw2]; rw [hw3]; rfl) (iI_vp (by decide) (by decide) ⟨by decide, by decide⟩) rfl dX0_init_31 ?_
  refine c_iinc1 X dX0_init_32 (by decide) (Or.inr ⟨_, rfl, rfl⟩) ?_
  refine c_goto X dX0_init_35 (tgt := 14) (by decide) ?_
  refine c_iload1 X dX0_init_14 ?_
  refine c_iconst X dX0_init_15 ?_
  refine c_icmp_geT X (by decide +kernel) dX0_init_16 (tgt := 38) (by decide) ?_
  exact c_ret X hr (⟨qs, cS, t0, t1, t2, t3, w0, w1, w2, w3, T0, T1, T2, T3, hp0, hp1, hp2, hp3, by unfold hsW hsF; simp only [List.append_assoc, List.cons_append, List.nil_append], by simp only [List.append_assoc, List.cons_append, List.nil_append]⟩) (Nat.le_of_ble_eq_true rfl) (Nat.le_of_ble_eq_true rfl) dX0_init_38
set_option maxHeartbeats 4000000 in
set_option maxRecDepth 100000 in
theorem k_X1_init (E0 : EV) (h0 t : Nat) : MIE E0 yX1_init wsX1_init 1 12 10 1039 1 [.null, .int 0, .null, .null] [.ref t] h0 (pPL h0 t) := by
  refine MIE.of (cc := cX1_init) (maxL := 2) (own := RX1) [some (.ref h0), some (.ref t)] (by decide +kernel) rfl rfl rfl (Nat.le_of_ble_eq_true rfl) rfl rfl (fun E _ X hE hr => ?_)
  refine c_aload0 X dX1_init_0 ?_
  refine c_obj X (by decide +kernel) (by decide +kernel) (by decide +kernel) ⟨(Nat.le_of_ble_eq_true rfl), (Nat.le_of_ble_eq_true rfl)⟩ rfl dX1_init_1 ?_
  refine c_aload0 X dX1_init_4 ?_
  refine c_aload1 X dX1_init_5 ?_
  refine c_putF X (C := RX1) (T := TX1) (N := 4) (ci := 1) (j := 2) (q0 := 0) (ty0 := tyX1) (ty := tyX1 2) (ws2 := [(h0, .inr (1, [.null, .int 0, .ref t, .null]))]) rfl rfl (fun w h => List.mem_cons_of_mem _ (List.mem_append_right _ h)) tyX1_ok nmX1 (Nat.le_of_ble_eq_true rfl) rfl (by decide +kernel) rfl hE rfl (tyX1_ok 2 (Nat.le_of_ble_eq_true rfl)) rfl rfl (Nat.le_of_ble_eq_true rfl) rfl dX1_init_6 ?_
  refine c_aload0 X dX1_init_9 ?_
  refine c_bipush X dX1_init_10 rfl ?_
  refine c_newa X (atype := .int) (ty := .int) (N := 7) rfl (by decide +kernel) (fun _ => rfl) (by decide +kernel) (by decide +kernel) (Nat.le_of_ble_eq_true rfl) (Nat.le_of_ble_eq_true rfl) (Nat.le_of_ble_eq_true rfl) dX1_init_12 (fun q1 cI => ?_)
  refine c_putF X (C := RX1) (T := TX1) (N := 4) (ci := 1) (j := 0) (q0 := 0) (ty0 := tyX1) (ty := tyX1 0) (ws2 := [(h0, .inr (1, [.ref q1, .int 0, .ref t, .null])), (q1, .inl (cI, zrs 7))]) rfl rfl (fun w h => List.mem_cons_of_mem _ (List.mem_append_right _ h)) tyX1_ok nmX1 (Nat.le_of_ble_eq_true rfl) rfl (by decide +kernel) rfl hE rfl (tyX1_ok 0 (Nat.le_of_ble_eq_true rfl)) rfl rfl (Nat.le_of_ble_eq_true rfl) rfl dX1_init_14 ?_
  refine c_aload0 X dX1_init_17 ?_
  refine c_bipush X dX1_init_18 rfl ?_
  refine c_sipush X dX1_init_20 rfl ?_
  refine c_mna X (N := 8) (K := 128) (t0 := 0) (by decide +kernel) (by decide +kernel) rfl (by decide +kernel) (by decide +kernel) (by decide +kernel) (by decide +kernel) ⟨(Nat.le_of_ble_eq_true rfl), (Nat.le_of_ble_eq_true rfl)⟩ (Nat.le_of_ble_eq_true rfl) (Nat.le_of_ble_eq_true rfl) dX1_init_23 (fun q2 r cA => ?_)
  refine c_putF X (C := RX1) (T := TX1) (N := 4) (ci := 1) (j := 3) (q0 := 0) (ty0 := tyX1) (ty := tyX1 3) (ws2 := plW h0 t q1 q2 r cI cA) rfl rfl (fun w h => List.mem_cons_of_mem _ (List.mem_append_right _ h)) tyX1_ok nmX1 (Nat.le_of_ble_eq_true rfl) rfl (by decide +kernel) rfl hE rfl (tyX1_ok 3 (Nat.le_of_ble_eq_true rfl)) rfl rfl (Nat.le_of_ble_eq_true rfl) rfl dX1_init_27 ?_
  exact c_ret X hr (⟨q1, q2, r, cI, cA, rfl, rfl⟩) (Nat.le_of_ble_eq_true rfl) (Nat.le_of_ble_eq_true rfl) dX1_init_30
set_option maxHeartbeats 4000000 in
set_option maxRecDepth 100000 in
theorem k_X2_init (E0 : EV) (h0 t p : Nat) : MIE E0 yX2_init wsX2_init 1 12 1 7 2 [.null, .null, .null] [.ref t, .ref p] h0 (pPR h0 t p) := by
  refine MIE.of (cc := cX2_init) (maxL := 3) (own := RX2) [some (.ref h0), some (.ref t), some (.ref p)] (by decide +kernel) rfl rfl rfl (Nat.le_of_ble_eq_true rfl) rfl rfl (fun E _ X hE hr => ?_)
  refine c_aload0 X dX2_init_0 ?_
  refine c_obj X (by decide +kernel) (by decide +kernel) (by decide +kernel) ⟨(Nat.le_of_ble_eq_true rfl), (Nat.le_of_ble_eq_true rfl)⟩ rfl dX2_init_1 ?_
  refine c_aload0 X dX2_init_4 ?_
  refine c_aload1 X dX2_init_5 ?_
  refine c_putF X (C := RX2) (T := TX2) (N := 3) (ci := 2) (j := 1) (q0 := 0) (ty0 := tyX2) (ty := tyX2 1) (ws2 := [(h0, .inr (2, [.null, .ref t, .null]))]) rfl rfl (fun w h => List.mem_cons_of_mem _ (List.mem_append_right _ h)) tyX2_ok nmX2 (Nat.le_of_ble_eq_true rfl) rfl (by decide +kernel) rfl hE rfl (tyX2_ok 1 (Nat.le_of_ble_eq_true rfl)) rfl rfl (Nat.le_of_ble_eq_true rfl) rfl dX2_init_6 ?_
  refine c_aload0 X dX2_init_9 ?_
  refine c_aload2 X dX2_init_10 ?_
  refine c_putF X (C := RX2) (T := TX2) (N := 3) (ci := 2) (j := 2) (q0 := 0) (ty0 := tyX2) (ty := tyX2 2) (ws2 := [(h0, .inr (2, [.null, .ref t, .ref p]))]) rfl rfl (fun w h => List.mem_cons_of_mem _ (List.mem_append_right _ h)) tyX2_ok nmX2 (Nat.le_of_ble_eq_true rfl) rfl (by decide +kernel) rfl hE rfl (tyX2_ok 2 (Nat.le_of_ble_eq_true rfl)) rfl rfl (Nat.le_of_ble_eq_true rfl) rfl dX2_init_11 ?_
  refine c_aload0 X dX2_init_14 ?_
  refine c_bipush X dX2_init_15 rfl ?_
  refine c_newa X (atype := .int) (ty := .int) (N := 7) rfl (by decide +kernel) (fun _ => rfl) (by decide +kernel) (by decide +kernel) (Nat.le_of_ble_eq_true rfl) (Nat.le_of_ble_eq_true rfl) (Nat.le_of_ble_eq_true rfl) dX2_init_17 (fun q1 cI => ?_)
  refine c_putF X (C := RX2) (T := TX2) (N := 3) (ci := 2) (j := 0) (q0 := 0) (ty0 := tyX2) (ty := tyX2 0) (ws2 := [(h0, .inr (2, [.ref q1, .ref t, .ref p])), (q1, .inl (cI, zrs 7))]) rfl rfl (fun w h => List.mem_cons_of_mem _ (List.mem_append_right _ h)) tyX2_ok nmX2 (Nat.le_of_ble_eq_true rfl) rfl (by decide +kernel) rfl hE rfl (tyX2_ok 0 (Nat.le_of_ble_eq_true rfl)) rfl rfl (Nat.le_of_ble_eq_true rfl) rfl dX2_init_19 ?_
  exact c_ret X hr (⟨q1, cI, rfl, rfl⟩) (Nat.le_of_ble_eq_true rfl) (Nat.le_of_ble_eq_true rfl) dX2_init_22
set_option maxHeartbeats 4000000 in
set_option maxRecDepth 100000 in
theorem k_X5_init (E0 : EV) (h0 : Nat) : MIE E0 yX5_init wsX5_init 1 12 1 80 5 [.int 0, .null] [] h0 (pTX h0) := by
  refine MIE.of (cc := cX5_init) (maxL := 1) (own := RX5) [some (.ref h0)] (by decide +kernel) rfl rfl rfl (Nat.le_of_ble_eq_true rfl) rfl rfl (fun E _ X hE hr => ?_)
  refine c_aload0 X dX5_init_0 ?_
  refine c_obj X (by decide +kernel) (by decide +kernel) (by decide +kernel) ⟨(Nat.le_of_ble_eq_true rfl), (Nat.le_of_ble_eq_true rfl)⟩ rfl dX5_init_1 ?_
  refine c_aload0 X dX5_init_4 ?_
  refine c_bipush X dX5_init_5 rfl ?_
  refine c_newa X (atype := .char) (ty := .char) (N := 80) rfl (by decide +kernel) (fun _ => rfl) (by decide +kernel) (by decide +kernel) (Nat.le_of_ble_eq_true rfl) (Nat.le_of_ble_eq_true rfl) (Nat.le_of_ble_eq_true rfl) dX5_init_7 (fun q1 cC => ?_)
  refine c_putF X (C := RX5) (T := TX5) (N := 2) (ci := 5) (j := 1) (q0 := 0) (ty0 := tyX5) (ty := tyX5 1) (ws2 := [(h0, .inr (5, [.int 0, .ref q1])), (q1, .inl (cC, zrs 80))]) rfl rfl (fun w h => List.mem_cons_of_mem _ (List.mem_append_right _ h)) tyX5_ok nmX5 (Nat.le_of_ble_eq_true rfl) rfl (by decide +kernel) rfl hE rfl (tyX5_ok 1 (Nat.le_of_ble_eq_true rfl)) rfl rfl (Nat.le_of_ble_eq_true rfl) rfl dX5_init_9 ?_
  exact c_ret X hr (⟨q1, cC, rfl, rfl⟩) (Nat.le_of_ble_eq_true rfl) (Nat.le_of_ble_eq_true rfl) dX5_init_12
set_option maxHeartbeats 4000000 in
set_option maxRecDepth 100000 in
theorem k_X3_init (E0 : EV) (h0 x : Nat) : MIE E0 yX3_init wsX3_init 2 32 10 67 3 [.int 0, .int 0, .null, .null] [.ref x] h0 (pRD h0 x) := by
  refine MIE.of (cc := cX3_init) (maxL := 2) (own := RX3) [some (.ref h0), some (.ref x)] (by decide +kernel) rfl rfl rfl (Nat.le_of_ble_eq_true rfl) rfl rfl (fun E _ X hE hr => ?_)
  refine c_aload0 X dX3_init_0 ?_
  refine c_obj X (by decide +kernel) (by decide +kernel) (by decide +kernel) ⟨(Nat.le_of_ble_eq_true rfl), (Nat.le_of_ble_eq_true rfl)⟩ rfl dX3_init_1 ?_
  refine c_aload0 X dX3_init_4 ?_
  refine c_aload1 X dX3_init_5 ?_
  refine c_putF X (C := RX3) (T := TX3) (N := 4) (ci := 3) (j := 3) (q0 := 0) (ty0 := tyX3) (ty := tyX3 3) (ws2 := [(h0, .inr (3, [.int 0, .int 0, .null, .ref x]))]) rfl rfl (fun w h => List.mem_cons_of_mem _ (List.mem_append_left _ (List.mem_append_right _ h))) tyX3_ok nmX3 (Nat.le_of_ble_eq_true rfl) rfl (by decide +kernel) rfl hE rfl (tyX3_ok 3 (Nat.le_of_ble_eq_true rfl)) rfl rfl (Nat.le_of_ble_eq_true rfl) rfl dX3_init_6 ?_
  refine c_aload0 X dX3_init_9 ?_
  refine c_new X (C := RX4) (T := TX4) (N := 4) (ci := 4) (ty := tyX4) (fs := [.int 0, .int 0, .null, .null]) (by decide +kernel) (by decide +kernel) (by decide +kernel) (fun w h => List.mem_cons_of_mem _ (List.mem_append_right _ h)) tyX4_ok rfl (fs_d (by decide +kernel)) (Nat.le_of_ble_eq_true rfl) (Nat.le_of_ble_eq_true rfl) dX3_init_10 (fun t => ?_)
  refine c_dup X dX3_init_13 rfl ?_
  refine c_init X (As := []) (na := 0) (k_X4_init E t) gX3_init_X4_init rfl (by decide +kernel) (by decide +kernel) (by decide +kernel) rfl (by decide +kernel) rfl ⟨(Nat.le_of_ble_eq_true rfl), (Nat.le_of_ble_eq_true rfl)⟩ (Nat.le_of_ble_eq_true rfl) (Nat.le_of_ble_eq_true rfl) (Nat.le_of_ble_eq_true rfl) dX3_init_14 (fun w T hp => ?_)
  refine c_putF X (C := RX3) (T := TX3) (N := 4) (ci := 3) (j := 2) (q0 := 0) (ty0 := tyX3) (ty := tyX3 2) (ws2 := (h0, .inr (3, [.int 0, .int 0, .ref t, .ref x])) :: w) rfl rfl (fun w h => List.mem_cons_of_mem _ (List.mem_append_left _ (List.mem_append_right _ h))) tyX3_ok nmX3 (Nat.le_of_ble_eq_true rfl) rfl (by decide +kernel) rfl hE rfl (tyX3_ok 2 (Nat.le_of_ble_eq_true rfl)) rfl rfl (Nat.le_of_ble_eq_true rfl) rfl dX3_init_17 ?_
  exact c_ret X hr (⟨t, w, hp, rfl⟩) (Nat.le_of_ble_eq_true rfl) (Nat.le_of_ble_eq_true rfl) dX3_init_20
set_option maxHeartbeats 4000000 in
set_option maxRecDepth 100000 in
theorem k_X6_init (E0 : EV) (h0 : Nat) : MIE E0 yX6_init wsX6_init 3 53 78 1547 6 [.null, .null, .null, .null, .null, .null] [] h0 (pPP h0) := by
  refine MIE.of (cc := cX6_init) (maxL := 1) (own := RX6) [some (.ref h0)] (by decide +kernel) rfl rfl rfl (Nat.le_of_ble_eq_true rfl) rfl rfl (fun E _ X hE hr => ?_)
  refine c_aload0 X dX6_init_0 ?_
  refine c_obj X (by decide +kernel) (by decide +kernel) (by decide +kernel) ⟨(Nat.le_of_ble_eq_true rfl), (Nat.le_of_ble_eq_true rfl)⟩ rfl dX6_init_1 ?_
  refine c_aload0 X dX6_init_4 ?_
  refine c_new X (C := RX4) (T := TX4) (N := 4) (ci := 4) (ty := tyX4) (fs := [.int 0, .int 0, .null, .null]) (by decide +kernel) (by decide +kernel) (by decide +kernel) (fun w h => List.mem_cons_of_mem _ (List.mem_append_left _ (List.mem_append_left _ (List.mem_append_left _ (List.mem_append_left _ (List.mem_append_left _ (List.mem_append_left _ (List.mem_append_right _ h)))))))) tyX4_ok rfl (fs_d (by decide +kernel)) (Nat.le_of_ble_eq_true rfl) (Nat.le_of_ble_eq_true rfl) dX6_init_5 (fun t => ?_)
  refine c_dup X dX6_init_8 rfl ?_
  refine c_init X (As := []) (na := 0) (k_X4_init E t) gX6_init_X4_init rfl (by decide +kernel) (by decide +kernel) (by decide +kernel) rfl (by decide +kernel) rfl ⟨(Nat.le_of_ble_eq_true rfl), (Nat.le_of_ble_eq_true rfl)⟩ (Nat.le_of_ble_eq_true rfl) (Nat.le_of_ble_eq_true rfl) (Nat.le_of_ble_eq_true rfl) dX6_init_9 (fun wt Tt hpt => ?_)
  refine c_putF X (C := RX6) (T := TX6) (N := 6) (ci := 6) (j := 0) (q0 := 0) (ty0 := tyX6) (ty := tyX6 0) (ws2 := ([(h0, .inr (6, [.ref t, .null, .null, .null, .null, .null]))] ++ wt)) rfl rfl (fun w h => List.mem_cons_of_mem _ (List.mem_append_left _ (List.mem_append_left _ (List.mem_append_left _ (List.mem_append_left _ (List.mem_append_left _ (List.mem_append_right _ h))))))) tyX6_ok nmX6 (Nat.le_of_ble_eq_true rfl) rfl (by decide +kernel) rfl hE rfl (tyX6_ok 0 (Nat.le_of_ble_eq_true rfl)) rfl rfl (Nat.le_of_ble_eq_true rfl) rfl dX6_init_12 ?_
  refine c_aload0 X dX6_init_15 ?_
  refine c_new X (C := RX0) (T := TX0) (N := 2) (ci := 0) (ty := tyX0) (fs := [.int 0, .null]) (by decide +kernel) (by decide +kernel) (by decide +kernel) (fun w h => List.mem_cons_of_mem _ (List.mem_append_left _ (List.mem_append_left _ (List.mem_append_left _ (List.mem_append_left _ (List.mem_append_right _ h)))))) tyX0_ok rfl (fs_d (by decide +kernel)) (Nat.le_of_ble_eq_true rfl) (Nat.le_of_ble_eq_true rfl) dX6_init_16 (fun h => ?_)
  refine c_dup X dX6_init_19 rfl ?_
  refine c_init X (As := []) (na := 0) (k_X0_init E h) gX6_init_X0_init rfl (by decide +kernel) (by decide +kernel) (by decide +kernel) rfl (by decide +kernel) rfl ⟨(Nat.le_of_ble_eq_true rfl), (Nat.le_of_ble_eq_true rfl)⟩ (Nat.le_of_ble_eq_true rfl) (Nat.le_of_ble_eq_true rfl) (Nat.le_of_ble_eq_true rfl) dX6_init_20 (fun wh Th hph => ?_)
  refine c_putF X (C := RX6) (T := TX6) (N := 6) (ci := 6) (j := 1) (q0 := 0) (ty0 := tyX6) (ty := tyX6 1) (ws2 := (([(h0, .inr (6, [.ref t, .ref h, .null, .null, .null, .null]))] ++ wt) ++ wh)) rfl rfl (fun w h => List.mem_cons_of_mem _ (List.mem_append_left _ (List.mem_append_left _ (List.mem_append_left _ (List.mem_append_left _ (List.mem_append_left _ (List.mem_append_right _ h))))))) tyX6_ok nmX6 (Nat.le_of_ble_eq_true rfl) rfl (by decide +kernel) rfl hE rfl (tyX6_ok 1 (Nat.le_of_ble_eq_true rfl)) rfl rfl (Nat.le_of_ble_eq_true rfl) rfl dX6_init_23 ?_
  refine c_aload0 X dX6_init_26 ?_
  refine c_new X (C := RX1) (T := TX1) (N := 4) (ci := 1) (ty := tyX1) (fs := [.null, .int 0, .null, .null]) (by decide +kernel) (by decide +kernel) (by decide +kernel) (fun w h => List.mem_cons_of_mem _ (List.mem_append_left _ (List.mem_append_left _ (List.mem_append_left _ (List.mem_append_right _ h))))) tyX1_ok rfl (fs_d (by decide +kernel)) (Nat.le_of_ble_eq_true rfl) (Nat.le_of_ble_eq_true rfl) dX6_init_27 (fun p => ?_)
  refine c_dup X dX6_init_30 rfl ?_
  refine c_aload0 X dX6_init_31 ?_
  refine c_get X (C := RX6) (T := TX6) (N := 6) (ci := 6) (j := 0) (q0 := 0) rfl rfl (fun w h => List.mem_cons_of_mem _ (List.mem_append_left _ (List.mem_append_left _ (List.mem_append_left _ (List.mem_append_left _ (List.mem_append_left _ (List.mem_append_right _ h))))))) (Nat.le_of_ble_eq_true rfl) rfl (by decide +kernel) rfl dX6_init_32 ?_
  refine c_init X (As := [.ref t]) (na := 1) (k_X1_init E p t) gX6_init_X1_init rfl (by decide +kernel) (by decide +kernel) (by decide +kernel) rfl (by decide +kernel) rfl ⟨(Nat.le_of_ble_eq_true rfl), (Nat.le_of_ble_eq_true rfl)⟩ (Nat.le_of_ble_eq_true rfl) (Nat.le_of_ble_eq_true rfl) (Nat.le_of_ble_eq_true rfl) dX6_init_35 (fun wp Tp hpp => ?_)
  refine c_putF X (C := RX6) (T := TX6) (N := 6) (ci := 6) (j := 2) (q0 := 0) (ty0 := tyX6) (ty := tyX6 2) (ws2 := ((([(h0, .inr (6, [.ref t, .ref h, .ref p, .null, .null, .null]))] ++ wt) ++ wh) ++ wp)) rfl rfl (fun w h => List.mem_cons_of_mem _ (List.mem_append_left _ (List.mem_append_left _ (List.mem_append_left _ (List.mem_append_left _ (List.mem_append_left _ (List.mem_append_right _ h))))))) tyX6_ok nmX6 (Nat.le_of_ble_eq_true rfl) rfl (by decide +kernel) rfl hE rfl (tyX6_ok 2 (Nat.le_of_ble_eq_true rfl)) rfl rfl (Nat.le_of_ble_eq_true rfl) rfl dX6_init_38 ?_
  refine c_aload0 X dX6_init_41 ?_
  refine c_new X (C := RX2) (T := TX2) (N := 3) (ci := 2) (ty := tyX2) (fs := [.null, .null, .null]) (by decide +kernel) (by decide +kernel) (by decide +kernel) (fun w h => List.mem_cons_of_mem _ (List.mem_append_left _ (List.mem_append_left _ (List.mem_append_right _ h)))) tyX2_ok rfl (fs_d (by decide +kernel)) (Nat.le_of_ble_eq_true rfl) (Nat.le_of_ble_eq_true rfl) dX6_init_42 (fun r => ?_)
  refine c_dup X dX6_init_45 rfl ?_
  refine c_aload0 X dX6_init_46 ?_
  refine c_get X (C := RX6) (T := TX6) (N := 6) (ci := 6) (j := 0) (q0 := 0) rfl rfl (fun w h => List.mem_cons_of_mem _ (List.mem_append_left _ (List.mem_append_left _ (List.mem_append_left _ (List.mem_append_left _ (List.mem_append_left _ (List.mem_append_right _ h))))))) (Nat.le_of_ble_eq_true rfl) rfl (by decide +kernel) rfl dX6_init_47 ?_
  refine c_aload0 X dX6_init_50 ?_
  refine c_get X (C := RX6) (T := TX6) (N := 6) (ci := 6) (j := 2) (q0 := 0) rfl rfl (fun w h => List.mem_cons_of_mem _ (List.mem_append_left _ (List.mem_append_left _ (List.mem_append_left _ (List.mem_append_left _ (List.mem_append_left _ (List.mem_append_right _ h))))))) (Nat.le_of_ble_eq_true rfl) rfl (by decide +kernel) rfl dX6_init_51 ?_
  refine c_init X (As := [.ref t, .ref p]) (na := 2) (k_X2_init E r t p) gX6_init_X2_init rfl (by decide +kernel) (by decide +kernel) (by decide +kernel) rfl (by decide +kernel) rfl ⟨(Nat.le_of_ble_eq_true rfl), (Nat.le_of_ble_eq_true rfl)⟩ (Nat.le_of_ble_eq_true rfl) (Nat.le_of_ble_eq_true rfl) (Nat.le_of_ble_eq_true rfl) dX6_init_54 (fun wr Tr hpr => ?_)
  refine c_putF X (C := RX6) (T := TX6) (N := 6) (ci := 6) (j := 3) (q0 := 0) (ty0 := tyX6) (ty := tyX6 3) (ws2 := (((([(h0, .inr (6, [.ref t, .ref h, .ref p, .ref r, .null, .null]))] ++ wt) ++ wh) ++ wp) ++ wr)) rfl rfl (fun w h => List.mem_cons_of_mem _ (List.mem_append_left _ (List.mem_append_left _ (List.mem_append_left _ (List.mem_append_left _ (List.mem_append_left _ (List.mem_append_right _ h))))))) tyX6_ok nmX6 (Nat.le_of_ble_eq_true rfl) rfl (by decide +kernel) rfl hE rfl (tyX6_ok 3 (Nat.le_of_ble_eq_true rfl)) rfl rfl (Nat.le_of_ble_eq_true rfl) rfl dX6_init_57 ?_
  refine c_aload0 X dX6_init_60 ?_
  refine c_new X (C := RX5) (T := TX5) (N := 2) (ci := 5) (ty := tyX5) (fs := [.int 0, .null]) (by decide +kernel) (by decide +kernel) (by decide +kernel) (fun w h => List.mem_cons_of_mem _ (List.mem_append_left _ (List.mem_append_right _ h))) tyX5_ok rfl (fs_d (by decide +kernel)) (Nat.le_of_ble_eq_true rfl) (Nat.le_of_ble_eq_true rfl) dX6_init_61 (fun x => ?_)
  refine c_dup X dX6_init_64 rfl ?_
  refine c_init X (As := []) (na := 0) (k_X5_init E x) gX6_init_X5_init rfl (by decide +kernel) (by decide +kernel) (by decide +kernel) rfl (by decide +kernel) rfl ⟨(Nat.le_of_ble_eq_true rfl), (Nat.le_of_ble_eq_true rfl)⟩ (Nat.le_of_ble_eq_true rfl) (Nat.le_of_ble_eq_true rfl) (Nat.le_of_ble_eq_true rfl) dX6_init_65 (fun wx Tx hpx => ?_)
  refine c_putF X (C := RX6) (T := TX6) (N := 6) (ci := 6) (j := 4) (q0 := 0) (ty0 := tyX6) (ty := tyX6 4) (ws2 := ((((([(h0, .inr (6, [.ref t, .ref h, .ref p, .ref r, .ref x, .null]))] ++ wt) ++ wh) ++ wp) ++ wr) ++ wx)) rfl rfl (fun w h => List.mem_cons_of_mem _ (List.mem_append_left _ (List.mem_append_left _ (List.mem_append_left _ (List.mem_append_left _ (List.mem_append_left _ (List.mem_append_right _ h))))))) tyX6_ok nmX6 (Nat.le_of_ble_eq_true rfl) rfl (by decide +kernel) rfl hE rfl (tyX6_ok 4 (Nat.le_of_ble_eq_true rfl)) rfl rfl (Nat.le_of_ble_eq_true rfl) rfl dX6_init_68 ?_
  refine c_aload0 X dX6_init_71 ?_
  refine c_new X (C := RX3) (T := TX3) (N := 4) (ci := 3) (ty := tyX3) (fs := [.int 0, .int 0, .null, .null]) (by decide +kernel) (by decide +kernel) (by decide +kernel) (fun w h => List.mem_cons_of_mem _ (List.mem_append_right _ h)) tyX3_ok rfl (fs_d (by decide +kernel)) (Nat.le_of_ble_eq_true rfl) (Nat.le_of_ble_eq_true rfl) dX6_init_72 (fun d => ?_)
  refine c_dup X dX6_init_75 rfl ?_
  refine c_aload0 X dX6_init_76 ?_
  refine c_get X (C := RX6) (T := TX6) (N := 6) (ci := 6) (j := 4) (q0 := 0) rfl rfl (fun w h => List.mem_cons_of_mem _ (List.mem_append_left _ (List.mem_append_left _ (List.mem_append_left _ (List.mem_append_left _ (List.mem_append_left _ (List.mem_append_right _ h))))))) (Nat.le_of_ble_eq_true rfl) rfl (by decide +kernel) rfl dX6_init_77 ?_
  refine c_init X (As := [.ref x]) (na := 1) (k_X3_init E d x) gX6_init_X3_init rfl (by decide +kernel) (by decide +kernel) (by decide +kernel) rfl (by decide +kernel) rfl ⟨(Nat.le_of_ble_eq_true rfl), (Nat.le_of_ble_eq_true rfl)⟩ (Nat.le_of_ble_eq_true rfl) (Nat.le_of_ble_eq_true rfl) (Nat.le_of_ble_eq_true rfl) dX6_init_80 (fun wd Td hpd => ?_)
  refine c_putF X (C := RX6) (T := TX6) (N := 6) (ci := 6) (j := 5) (q0 := 0) (ty0 := tyX6) (ty := tyX6 5) (ws2 := (((((([(h0, .inr (6, [.ref t, .ref h, .ref p, .ref r, .ref x, .ref d]))] ++ wt) ++ wh) ++ wp) ++ wr) ++ wx) ++ wd)) rfl rfl (fun w h => List.mem_cons_of_mem _ (List.mem_append_left _ (List.mem_append_left _ (List.mem_append_left _ (List.mem_append_left _ (List.mem_append_left _ (List.mem_append_right _ h))))))) tyX6_ok nmX6 (Nat.le_of_ble_eq_true rfl) rfl (by decide +kernel) rfl hE rfl (tyX6_ok 5 (Nat.le_of_ble_eq_true rfl)) rfl rfl (Nat.le_of_ble_eq_true rfl) rfl dX6_init_83 ?_
  exact c_ret X hr (⟨t, h, p, r, x, d, wt, wh, wp, wr, wx, wd, Tt, Th, Tp, Tr, Tx, Td, hpt, hph, hpp, hpr, hpx, hpd, by simp only [List.append_assoc, List.cons_append, List.nil_append], by simp only [List.append_assoc, List.nil_append]⟩) (Nat.le_of_ble_eq_true rfl) (Nat.le_of_ble_eq_true rfl) dX6_init_86
