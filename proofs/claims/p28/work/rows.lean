section
-- ===== PART A: goes FIRST, ahead of the names: the tables' words, and 'selects' of the private methods out of them =====
/-- a private method of a class that the tables say can be made, by its rows of tables_1 -/
def lw_okq (q : MethodName × Nat) : Prop := (q.1.cls ≠ "java/lang/invoke/MethodHandle" ∧ q.1.cls ≠ "java/lang/invoke/VarHandle") ∧ Cond.instantiable q.1.cls q.2 ∈ tables_1 ∧ Cond.privateMethod q.1 ∈ tables_1 ∧ Cond.instanceMethod q.1 ∈ tables_1
theorem lw_p0 : lw_okq (⟨"PricedPairs", "isTask", "(I)Z"⟩, 6) := ⟨⟨by decide +kernel, by decide +kernel⟩, List.mem_of_getElem? (i := 11) (by decide +kernel), List.mem_of_getElem? (i := 175) (by decide +kernel), List.mem_of_getElem? (i := 176) (by decide +kernel)⟩
theorem lw_p1 : lw_okq (⟨"PricedPairs$Plans", "weigh", "(I)V"⟩, 4) := ⟨⟨by decide +kernel, by decide +kernel⟩, List.mem_of_getElem? (i := 74) (by decide +kernel), List.mem_of_getElem? (i := 191) (by decide +kernel), List.mem_of_getElem? (i := 192) (by decide +kernel)⟩
theorem lw_p2 : lw_okq (⟨"PricedPairs$Plans", "leastFrom", "(II)I"⟩, 4) := ⟨⟨by decide +kernel, by decide +kernel⟩, List.mem_of_getElem? (i := 74) (by decide +kernel), List.mem_of_getElem? (i := 195) (by decide +kernel), List.mem_of_getElem? (i := 196) (by decide +kernel)⟩
theorem lw_p3 : lw_okq (⟨"PricedPairs$Plans", "totalFrom", "(III)I"⟩, 4) := ⟨⟨by decide +kernel, by decide +kernel⟩, List.mem_of_getElem? (i := 74) (by decide +kernel), List.mem_of_getElem? (i := 199) (by decide +kernel), List.mem_of_getElem? (i := 200) (by decide +kernel)⟩
theorem lw_p4 : lw_okq (⟨"PricedPairs", "isWorker", "(I)Z"⟩, 6) := ⟨⟨by decide +kernel, by decide +kernel⟩, List.mem_of_getElem? (i := 11) (by decide +kernel), List.mem_of_getElem? (i := 236) (by decide +kernel), List.mem_of_getElem? (i := 237) (by decide +kernel)⟩
theorem lw_p5 : lw_okq (⟨"PricedPairs$Plans", "lowestBestTask", "(II)I"⟩, 4) := ⟨⟨by decide +kernel, by decide +kernel⟩, List.mem_of_getElem? (i := 74) (by decide +kernel), List.mem_of_getElem? (i := 267) (by decide +kernel), List.mem_of_getElem? (i := 268) (by decide +kernel)⟩
theorem lw_p6 : lw_okq (⟨"PricedPairs$History", "dropOldest", "()V"⟩, 2) := ⟨⟨by decide +kernel, by decide +kernel⟩, List.mem_of_getElem? (i := 57) (by decide +kernel), List.mem_of_getElem? (i := 321) (by decide +kernel), List.mem_of_getElem? (i := 322) (by decide +kernel)⟩
theorem lw_p7 : lw_okq (⟨"PricedPairs$Reader", "readRow", "(I)V"⟩, 4) := ⟨⟨by decide +kernel, by decide +kernel⟩, List.mem_of_getElem? (i := 128) (by decide +kernel), List.mem_of_getElem? (i := 380) (by decide +kernel), List.mem_of_getElem? (i := 381) (by decide +kernel)⟩
theorem lw_p8 : lw_okq (⟨"PricedPairs$Reader", "readEntries", "(I)I"⟩, 4) := ⟨⟨by decide +kernel, by decide +kernel⟩, List.mem_of_getElem? (i := 128) (by decide +kernel), List.mem_of_getElem? (i := 384) (by decide +kernel), List.mem_of_getElem? (i := 385) (by decide +kernel)⟩
theorem lw_p9 : lw_okq (⟨"PricedPairs$Reader", "readEntry", "()I"⟩, 4) := ⟨⟨by decide +kernel, by decide +kernel⟩, List.mem_of_getElem? (i := 128) (by decide +kernel), List.mem_of_getElem? (i := 388) (by decide +kernel), List.mem_of_getElem? (i := 389) (by decide +kernel)⟩
theorem lw_p10 : lw_okq (⟨"PricedPairs$Reader", "readNumber", "()I"⟩, 4) := ⟨⟨by decide +kernel, by decide +kernel⟩, List.mem_of_getElem? (i := 128) (by decide +kernel), List.mem_of_getElem? (i := 396) (by decide +kernel), List.mem_of_getElem? (i := 397) (by decide +kernel)⟩
theorem lw_p11 : lw_okq (⟨"PricedPairs$Reader", "step", "(CZ)V"⟩, 4) := ⟨⟨by decide +kernel, by decide +kernel⟩, List.mem_of_getElem? (i := 128) (by decide +kernel), List.mem_of_getElem? (i := 404) (by decide +kernel), List.mem_of_getElem? (i := 405) (by decide +kernel)⟩
theorem lw_p12 : lw_okq (⟨"PricedPairs", "changePair", "(III)I"⟩, 6) := ⟨⟨by decide +kernel, by decide +kernel⟩, List.mem_of_getElem? (i := 11) (by decide +kernel), List.mem_of_getElem? (i := 442) (by decide +kernel), List.mem_of_getElem? (i := 443) (by decide +kernel)⟩
theorem lw_p13 : lw_okq (⟨"PricedPairs", "isTaskOrNone", "(I)Z"⟩, 6) := ⟨⟨by decide +kernel, by decide +kernel⟩, List.mem_of_getElem? (i := 11) (by decide +kernel), List.mem_of_getElem? (i := 459) (by decide +kernel), List.mem_of_getElem? (i := 460) (by decide +kernel)⟩
def lw_privs_1 : List (MethodName × Nat) := [(⟨"PricedPairs", "isTask", "(I)Z"⟩, 6), (⟨"PricedPairs$Plans", "weigh", "(I)V"⟩, 4), (⟨"PricedPairs$Plans", "leastFrom", "(II)I"⟩, 4), (⟨"PricedPairs$Plans", "totalFrom", "(III)I"⟩, 4), (⟨"PricedPairs", "isWorker", "(I)Z"⟩, 6), (⟨"PricedPairs$Plans", "lowestBestTask", "(II)I"⟩, 4), (⟨"PricedPairs$History", "dropOldest", "()V"⟩, 2), (⟨"PricedPairs$Reader", "readRow", "(I)V"⟩, 4), (⟨"PricedPairs$Reader", "readEntries", "(I)I"⟩, 4), (⟨"PricedPairs$Reader", "readEntry", "()I"⟩, 4), (⟨"PricedPairs$Reader", "readNumber", "()I"⟩, 4), (⟨"PricedPairs$Reader", "step", "(CZ)V"⟩, 4), (⟨"PricedPairs", "changePair", "(III)I"⟩, 6), (⟨"PricedPairs", "isTaskOrNone", "(I)Z"⟩, 6)]
theorem lw_r1 : ∀ q ∈ lw_privs_1, lw_okq q := List.forall_mem_cons.mpr ⟨lw_p0, List.forall_mem_cons.mpr ⟨lw_p1, List.forall_mem_cons.mpr ⟨lw_p2, List.forall_mem_cons.mpr ⟨lw_p3, List.forall_mem_cons.mpr ⟨lw_p4, List.forall_mem_cons.mpr ⟨lw_p5, List.forall_mem_cons.mpr ⟨lw_p6, List.forall_mem_cons.mpr ⟨lw_p7, List.forall_mem_cons.mpr ⟨lw_p8, List.forall_mem_cons.mpr ⟨lw_p9, List.forall_mem_cons.mpr ⟨lw_p10, List.forall_mem_cons.mpr ⟨lw_p11, List.forall_mem_cons.mpr ⟨lw_p12, List.forall_mem_cons.mpr ⟨lw_p13, fun _ h => absurd h List.not_mem_nil⟩⟩⟩⟩⟩⟩⟩⟩⟩⟩⟩⟩⟩⟩
def lw_privs : List (MethodName × Nat) := lw_privs_1
def lw_tbl : List Cond := k2_sels lw_privs ++ tables_1
theorem lw_privs_ok : ∀ q ∈ lw_privs, lw_okq q := lw_r1
-- ===== end of PART A; then your names; then what follows =====
end
section
/-! an array of arrays of t has been made: the word that the printed row of 'new int[n][m]' asks for by this name -/
def va_AOA (t : FieldType) (U : State) : Prop := (Cond.arrayOver (.array t)).before #[] U = true
theorem va_AOA.of {t : FieldType} {a : Array Value} {U : State} (h : (Cond.arrayOver (.array t)).before a U = true) : va_AOA t U := h
theorem va_AOA.use {t : FieldType} {a : Array Value} {U : State} (h : va_AOA t U) : (Cond.arrayOver (.array t)).before a U = true := h
end
section
/-! ===== BEGIN words of one list among another's, by their places ===== -/
theorem goodIn_r {big : List Cond} (ws : List Cond) (ps : List Nat) (hp : ws = ps.filterMap (fun i => big[i]?)) (h : ws.all goodWord = true) : GoodIn big ws := by
  intro w hw
  have h1 := List.all_eq_true.mp h w hw
  rw [hp] at hw
  obtain ⟨i, -, hi⟩ := List.mem_filterMap.mp hw
  have hm : w ∈ big := by first | exact List.mem_of_getElem? hi | exact List.getElem?_mem hi
  exact ⟨hm, good_of_word h1⟩
theorem goodIn_app {big a b : List Cond} (ha : GoodIn big a) (hb : GoodIn big b) : GoodIn big (a ++ b) := fun w h => (List.mem_append.mp h).elim (ha w) (hb w)
theorem goodIn_ca {big a b : List Cond} {c : Cond} (ha : GoodIn big (c :: a)) (hb : GoodIn big b) : GoodIn big (c :: (a ++ b)) := fun w h => (List.mem_cons.mp h).elim (fun e => ha w (List.mem_cons.mpr (Or.inl e))) (fun h => (List.mem_append.mp h).elim (fun h => ha w (List.mem_cons.mpr (Or.inr h))) (hb w))
theorem goodIn_sub {big ws : List Cond} (hm : ∀ w ∈ ws, w ∈ big) (h : ws.all goodWord = true) : GoodIn big ws := fun w hw => ⟨hm w hw, good_of_word (List.all_eq_true.mp h w hw)⟩
/-! ===== END ===== -/

/-! ===== BEGIN new T[n][m]: the outer array a place, the inner ones among the pooled ===== -/
/-- f, but v at every address of l -/
def vr_up {α : Type} (f : Nat → α) (l : List Nat) (v : α) : Nat → α := fun a => if a ∈ l then v else f a
theorem vr_up_in {α : Type} {f : Nat → α} {l : List Nat} {v : α} {a : Nat} (h : a ∈ l) : vr_up f l v a = v := if_pos h
theorem vr_up_ne {α : Type} {f : Nat → α} {l : List Nat} {v : α} {a : Nat} (h : a ∉ l) : vr_up f l v a = f a := if_neg h
theorem vr_rows {L l : List Nat} {f : Nat → va_E} {e : va_E} (h : ∀ a, a ∈ l → a ∉ L) : va_pl L f ++ l.map (fun a => (a, e)) = va_pl (L ++ l) (vr_up f l e) := by
  unfold va_pl
  rw [List.map_append]
  congr 1
  · apply List.map_congr_left
    intro a ha
    rw [vr_up_ne (fun q => h a q ha)]
  · apply List.map_congr_left
    intro a ha
    rw [vr_up_in ha]
theorem vr_lay {X rows : va_W} {x : Nat × va_E} {pl : va_W} {D : va_G} {cl : List vw_C} {H : Heap} (hP : va_P D cl (((X ++ pl) ++ [x]) ++ rows) H) : va_P D cl ((X ++ [x]) ++ (pl ++ rows)) H := by
  rw [List.append_assoc (X ++ pl)] at hP
  have h := va_P.swap hP
  rw [← List.append_assoc X] at h
  have h2 := va_P.swap h
  rw [List.append_assoc (X ++ [x])] at h2
  exact h2
theorem vr_layD {X rows : va_W} {x : Nat × va_E} {pl : va_W} {A : Nat → Prop} (hD : va_D A (((X ++ pl) ++ [x]) ++ rows)) : va_D A ((X ++ [x]) ++ (pl ++ rows)) := by
  rw [List.append_assoc (X ++ pl)] at hD
  have h := va_D.swap hD
  rw [← List.append_assoc X] at h
  have h2 := va_D.swap h
  rw [List.append_assoc (X ++ [x])] at h2
  exact h2
theorem vr_outer (c : ClassId) (N h0 : Nat) : ∀ i : Nat, Jvm.Free.Multi.outerC c N h0 i = arrV c N (fun j => va_rf (if j < i then some (h0 + 1 + j) else none))
  | 0 => by
    show ({ cls := c, slots := Array.replicate N .null, vm := .none } : Cell) = _
    rw [arrV_new]
    refine congrArg (arrV c N) (funext fun j => ?_)
    simp [va_rf]
  | i + 1 => by
    show (Jvm.Free.Multi.outerC c N h0 i).setSlot i (.ref (h0 + 1 + i)) = _
    rw [vr_outer c N h0 i, arrV_store]
    refine congrArg (arrV c N) (funext fun j => ?_)
    by_cases e : j = i
    · subst e
      simp [updV, va_rf]
    · by_cases h : j < i
      · simp [updV, e, h, Nat.lt_succ_of_lt h]
      · simp [updV, e, h, show ¬ j < i + 1 by omega]
section VGM
variable {p : Program} {l : Launch} {e : Env} {R : Room} {s : State} {m : MethodId} {args : Array Value} {below : List Frame} {meth : Method} {c : Code} {H : Heap} {locs : List Loc} {cells slots : Nat} {Q : State → Prop}
variable {cc : ByteArray} {pc : Nat} {ls : Array Slot} {rest : List Value} {D : va_G} {cl : List vw_C} {A : Nat → Prop} {a : Nat} {tys : List (ClassId × FieldType)} {ws : va_W} {H0 : Heap}
theorem va_mna {X : va_W} {L : List Nat} {f : Nat → va_E} {cc : ByteArray} (hexec : p.tables.exec = Jvm.exec) (hb : c.code = cc) {own : String} {index : Nat} {ty : FieldType} {cy : ClassId} (hown : s.vm.findClass own = some m.cls) (hclink : (Cond.classLink own index ("[" ++ (FieldType.array ty).toString)).before args s = true) (hover : va_AOA ty s) (harr : (Cond.arrayClass ty).before args s = true) (hcy : s.vm.findClass (FieldType.array ty).toString = some cy)
    (hK : va_K D cl tys s) (hP : va_P D cl (X ++ va_pl L f) H) (hD : va_D A (X ++ va_pl L f)) (hS : va_S A H0 H locs) (hA : ∀ q, H0.size ≤ q → A q) {n k : Int32} {N' K' : Nat} {z : vp_A} (hn : ¬ n < 0) (hk : ¬ k < 0) (hN : n.toNatClampNeg = N') (hM : k.toNatClampNeg = K')
    (hb1 : N' * 4 ≤ 536870912) (hb2 : K' * componentBytes ty ≤ 536870912) (hb3 : K' ≤ 536870912) (hdf : fits ty (defaultValue ty) = true) (hdd : (defaultValue ty).isDefault = true) (hcells : cells + (1 + N') ≤ R.cells) (hslots : slots + (N' + N' * K') ≤ R.slots) (hz : ∀ c : ClassId, Jvm.Free.Multi.innerC c K' (defaultValue ty) = vp_cell c z) (hdg : decode cc pc = .ok (.multianewarray index 2, 4))
    (kk : ∀ (q : Nat) (r : Nat → Nat) (cA : ClassId) (H1 : Heap), (∀ i j : Nat, i < N' → j < N' → r i = r j → i = j) → (∀ i : Nat, i < N' → r i ∉ L) → va_K D cl (tys ++ [(cA, .array ty)]) s →
      va_P D cl ((X ++ [(q, .inl (cA, N', .inr (.inr (.inr (.inr (fun i => if i < N' then some (r i) else none))))))]) ++ va_pl (L ++ (List.range N').map r) (vr_up f ((List.range N').map r) (.inl (cy, z)))) H1 → va_D A ((X ++ [(q, .inl (cA, N', .inr (.inr (.inr (.inr (fun i => if i < N' then some (r i) else none))))))]) ++ va_pl (L ++ (List.range N').map r) (vr_up f ((List.range N').map r) (.inl (cy, z)))) → va_S A H0 H1 locs →
      W p l e R s m args below meth c H1 locs (cells + 1 + N') (slots + N' + N' * K') Q (F0 m (pc + 4) ls (.ref q :: rest))) : W p l e R s m args below meth c H locs cells slots Q (F0 m pc ls (.int k :: .int n :: rest)) := by
  subst hN
  subst hM
  intro T hT Xs
  obtain ⟨vm₁, cA, comp, -, fA, fC, hO, -, X', step⟩ := Xs.multianewarray2F hexec hown hclink (va_AOA.use hover) harr (g := F0 m pc ls (.int k :: .int n :: rest)) rfl (by rw [hb]; exact hdg) rfl hn hk hb1 hb2 hb3 hdf hdd hcells hslots
  have ec : some cy = some comp := hcy.symm.trans fC
  cases ec
  generalize hF : Jvm.Free.Multi.fill (T.setVm vm₁) cA cy n.toNatClampNeg k.toNatClampNeg (defaultValue ty) n.toNatClampNeg = F at X' step
  have hTh : (T.setVm vm₁).heap = H := hT
  obtain ⟨f1, f2, -, -⟩ := Jvm.Free.Multi.fill_facts (T.setVm vm₁) cA cy n.toNatClampNeg k.toNatClampNeg (defaultValue ty) n.toNatClampNeg
  rw [hF, hTh] at f1 f2
  have hold : ∀ x : Nat, x < H.size → F.heap[x]? = H[x]? := fun x hx => by
    have := Jvm.Free.Multi.fill_old (T.setVm vm₁) cA cy n.toNatClampNeg k.toNatClampNeg (defaultValue ty) (a := x) (by rw [hTh]; exact hx) n.toNatClampNeg
    rw [hF, hTh] at this
    exact this
  have hrow : ∀ j : Nat, j < n.toNatClampNeg → F.heap[H.size + 1 + j]? = some (vp_cell cy z) := fun j hj => by
    have := Jvm.Free.Multi.fill_inner (T.setVm vm₁) cA cy n.toNatClampNeg k.toNatClampNeg (defaultValue ty) n.toNatClampNeg j hj
    rw [hF, hTh, hz] at this
    exact this
  have hout : Jvm.Free.Multi.outerC cA n.toNatClampNeg H.size n.toNatClampNeg = vp_cell cA (n.toNatClampNeg, .inr (.inr (.inr (.inr (fun i => if i < n.toNatClampNeg then some (H.size + 1 + i) else none))))) := by
    rw [vp_cell_q]
    exact vr_outer cA n.toNatClampNeg H.size n.toNatClampNeg
  rw [hout] at f2
  have hlt : ∀ a, a ∈ L → a < H.size := fun a ha => by
    obtain ⟨k9, hk9⟩ := va_pl_get (X := X) (f := f) ha
    exact (hP k9 _ hk9).lt
  have hnl : ∀ i : Nat, i < n.toNatClampNeg → H.size + 1 + i ∉ L := fun i _ h => by
    have := hlt _ h
    omega
  have hnm : ∀ a, a ∈ (List.range n.toNatClampNeg).map (fun i => H.size + 1 + i) → a ∉ L := fun a ha h => by
    obtain ⟨i, -, rfl⟩ := List.mem_map.mp ha
    have := hlt _ h
    omega
  have hP0 : va_P D cl (X ++ va_pl L f) F.heap := hP.kept (fun k9 x hx => hold x.1 ((hP k9 x hx).lt))
  have hP1 : va_P D cl ((X ++ va_pl L f) ++ [(H.size, .inl (cA, n.toNatClampNeg, .inr (.inr (.inr (.inr (fun i => if i < n.toNatClampNeg then some (H.size + 1 + i) else none))))))]) F.heap := hP0.app (fun k9 x hx => by
    have h0 : k9 < 1 := (List.getElem?_eq_some_iff.mp hx).1
    rw [show k9 = 0 by omega] at hx
    cases hx
    exact f2)
  have hP2 : va_P D cl (((X ++ va_pl L f) ++ [(H.size, .inl (cA, n.toNatClampNeg, .inr (.inr (.inr (.inr (fun i => if i < n.toNatClampNeg then some (H.size + 1 + i) else none))))))]) ++ ((List.range n.toNatClampNeg).map (fun i => H.size + 1 + i)).map (fun a => (a, .inl (cy, z)))) F.heap := hP1.app (fun k9 x hx => by
    obtain ⟨a, ha, rfl⟩ := List.mem_map.mp (List.mem_of_getElem? hx)
    obtain ⟨i, hi, rfl⟩ := List.mem_map.mp ha
    exact hrow i (List.mem_range.mp hi))
  have hD2 : va_D A (((X ++ va_pl L f) ++ [(H.size, .inl (cA, n.toNatClampNeg, .inr (.inr (.inr (.inr (fun i => if i < n.toNatClampNeg then some (H.size + 1 + i) else none))))))]) ++ ((List.range n.toNatClampNeg).map (fun i => H.size + 1 + i)).map (fun a => (a, .inl (cy, z)))) := by
    have hD1 := hD.push (e := .inl (cA, n.toNatClampNeg, .inr (.inr (.inr (.inr (fun i => if i < n.toNatClampNeg then some (H.size + 1 + i) else none)))))) hP rfl (hA _ hS.1)
    generalize hW1 : (X ++ va_pl L f) ++ [(H.size, .inl (cA, n.toNatClampNeg, .inr (.inr (.inr (.inr (fun i => if i < n.toNatClampNeg then some (H.size + 1 + i) else none))))))] = W1 at hD1 hP1 ⊢
    have hle : ∀ (k9 : Nat) (x : Nat × va_E), W1[k9]? = some x → x.1 ≤ H.size := fun k9 x hx => by
      rw [← hW1] at hx
      by_cases hl : k9 < (X ++ va_pl L f).length
      · rw [List.getElem?_append_left hl] at hx
        exact Nat.le_of_lt ((hP k9 x hx).lt)
      · rw [List.getElem?_append_right (by omega)] at hx
        have h0 : k9 - (X ++ va_pl L f).length < 1 := (List.getElem?_eq_some_iff.mp hx).1
        rw [show k9 - (X ++ va_pl L f).length = 0 by omega] at hx
        cases hx
        exact Nat.le_refl _
    have hr : ∀ (k9 : Nat) (x : Nat × va_E), (((List.range n.toNatClampNeg).map (fun i => H.size + 1 + i)).map (fun a => ((a, .inl (cy, z)) : Nat × va_E)))[k9]? = some x → x.1 = H.size + 1 + k9 := fun k9 x hx => by
      rw [List.getElem?_map, List.getElem?_map] at hx
      by_cases h9 : k9 < n.toNatClampNeg
      · rw [List.getElem?_range h9] at hx
        cases hx
        rfl
      · have hn0 : (List.range n.toNatClampNeg)[k9]? = none := List.getElem?_eq_none (by rw [List.length_range]; omega)
        rw [hn0] at hx
        cases hx
    refine ⟨fun i j x y hi hj hxy => ?_, fun k9 x hx => ?_⟩
    · by_cases h1 : i < W1.length <;> by_cases h2 : j < W1.length
      · rw [List.getElem?_append_left h1] at hi
        rw [List.getElem?_append_left h2] at hj
        exact hD1.1 i j x y hi hj hxy
      · rw [List.getElem?_append_left h1] at hi
        rw [List.getElem?_append_right (by omega)] at hj
        have := hle _ _ hi
        have := hr _ _ hj
        omega
      · rw [List.getElem?_append_right (by omega)] at hi
        rw [List.getElem?_append_left h2] at hj
        have := hle _ _ hj
        have := hr _ _ hi
        omega
      · rw [List.getElem?_append_right (by omega)] at hi hj
        have := hr _ _ hi
        have := hr _ _ hj
        omega
    · by_cases h1 : k9 < W1.length
      · rw [List.getElem?_append_left h1] at hx
        exact hD1.2 k9 x hx
      · rw [List.getElem?_append_right (by omega)] at hx
        have := hr _ _ hx
        exact hA _ (by have := hS.1; omega)
  have hAr : ArrOfT s cA (.array ty) := fun N9 z9 => by
    obtain ⟨-, k9, hk9, cm9, hkk9⟩ := (hO 0 0 0).1
    exact ⟨(fun q hq => by cases hq), k9, hk9, cm9, hkk9⟩
  have hK2 : va_K D cl (tys ++ [(cA, .array ty)]) s := ⟨hK.1, fun k9 x hx => by
    by_cases hl : k9 < tys.length
    · rw [List.getElem?_append_left hl] at hx
      exact hK.2 k9 x hx
    · rw [List.getElem?_append_right (by omega)] at hx
      have h0 : k9 - tys.length < 1 := (List.getElem?_eq_some_iff.mp hx).1
      rw [show k9 - tys.length = 0 by omega] at hx
      cases hx
      exact ⟨hAr, fA⟩⟩
  obtain ⟨t, a1, b1⟩ := kk H.size (fun i => H.size + 1 + i) cA F.heap (fun i j _ _ h => by have h9 : H.size + 1 + i = H.size + 1 + j := h; omega) hnl hK2 (by rw [← vr_rows hnm]; exact vr_lay hP2) (by rw [← vr_rows hnm]; exact vr_layD hD2) ⟨by rw [f1]; have := hS.1; omega, fun x h1 h2 => (hold x (Nat.lt_of_lt_of_le h1 hS.1)).trans (hS.2.1 x h1 h2), hS.2.2⟩ F rfl X'
  refine ⟨t, step t ?_, b1⟩
  have e : T.heap.size = H.size := by rw [hT]
  rw [e]
  exact a1
end VGM
/-! ===== END ===== -/
end
section
/-! ===== BEGIN printed: names, fields, word lists, decode rows ===== -/
def RX0 : String := "PricedPairs$History"
def TX0 : u_T := fun k => match k with
  | 0 => ("PricedPairs$History", "size", "I", false)
  | _ => ("PricedPairs$History", "states", "[LPricedPairs$Table;", true)
def tyX0 : Nat → FieldType := fun k => match k with
  | 0 => .int
  | _ => .array (.object "PricedPairs$Table")
abbrev wsX00 : List Cond := u_ws RX0 TX0 2
theorem nmX0 : ∀ a, a < 2 → ∀ b, b < 2 → a ≠ b → (TX0 a).2.1 ≠ (TX0 b).2.1 := by decide +kernel
theorem tyX0_ok : ∀ k, k < 2 → parseFieldDescriptor (TX0 k).2.2.1 = some (tyX0 k) := by decide +kernel
abbrev cX0_init : ByteArray := prog_2_method_1_code
def yX0_init : MethodName := ⟨RX0, "<init>", "()V"⟩
abbrev cX0_keep : ByteArray := prog_2_method_2_code
def yX0_keep : MethodName := ⟨RX0, "keep", "(LPricedPairs$Table;)V"⟩
abbrev cX0_dropOldest : ByteArray := prog_2_method_3_code
def yX0_dropOldest : MethodName := ⟨RX0, "dropOldest", "()V"⟩
def RX1 : String := "PricedPairs$Plans"
def TX1 : u_T := fun k => match k with
  | 0 => ("PricedPairs$Plans", "chosen", "[I", true)
  | 1 => ("PricedPairs$Plans", "chosenTotal", "I", false)
  | 2 => ("PricedPairs$Plans", "table", "LPricedPairs$Table;", true)
  | _ => ("PricedPairs$Plans", "least", "[[I", true)
def tyX1 : Nat → FieldType := fun k => match k with
  | 0 => .array .int
  | 1 => .int
  | 2 => .object "PricedPairs$Table"
  | _ => .array (.array .int)
abbrev wsX10 : List Cond := u_ws RX1 TX1 4
theorem nmX1 : ∀ a, a < 4 → ∀ b, b < 4 → a ≠ b → (TX1 a).2.1 ≠ (TX1 b).2.1 := by decide +kernel
theorem tyX1_ok : ∀ k, k < 4 → parseFieldDescriptor (TX1 k).2.2.1 = some (tyX1 k) := by decide +kernel
abbrev cX1_init : ByteArray := prog_3_method_1_code
def yX1_init : MethodName := ⟨RX1, "<init>", "(LPricedPairs$Table;)V"⟩
abbrev cX1_leastTotal : ByteArray := prog_3_method_2_code
def yX1_leastTotal : MethodName := ⟨RX1, "leastTotal", "()I"⟩
abbrev cX1_leastTotalOf : ByteArray := prog_3_method_3_code
def yX1_leastTotalOf : MethodName := ⟨RX1, "leastTotalOf", "(I)I"⟩
abbrev cX1_lossWithoutTask : ByteArray := prog_3_method_4_code
def yX1_lossWithoutTask : MethodName := ⟨RX1, "lossWithoutTask", "(I)I"⟩
abbrev cX1_weigh : ByteArray := prog_3_method_5_code
def yX1_weigh : MethodName := ⟨RX1, "weigh", "(I)V"⟩
abbrev cX1_leastFrom : ByteArray := prog_3_method_6_code
def yX1_leastFrom : MethodName := ⟨RX1, "leastFrom", "(II)I"⟩
abbrev cX1_totalFrom : ByteArray := prog_3_method_7_code
def yX1_totalFrom : MethodName := ⟨RX1, "totalFrom", "(III)I"⟩
abbrev cX1_chooseFirst : ByteArray := prog_3_method_8_code
def yX1_chooseFirst : MethodName := ⟨RX1, "chooseFirst", "()V"⟩
abbrev cX1_lowestBestTask : ByteArray := prog_3_method_9_code
def yX1_lowestBestTask : MethodName := ⟨RX1, "lowestBestTask", "(II)I"⟩
abbrev cX1_chosenPairs : ByteArray := prog_3_method_10_code
def yX1_chosenPairs : MethodName := ⟨RX1, "chosenPairs", "()I"⟩
def RX2 : String := "PricedPairs$Prices"
def TX2 : u_T := fun k => match k with
  | 0 => ("PricedPairs$Prices", "least", "[I", true)
  | 1 => ("PricedPairs$Prices", "table", "LPricedPairs$Table;", true)
  | _ => ("PricedPairs$Prices", "plans", "LPricedPairs$Plans;", true)
def tyX2 : Nat → FieldType := fun k => match k with
  | 0 => .array .int
  | 1 => .object "PricedPairs$Table"
  | _ => .object "PricedPairs$Plans"
abbrev wsX20 : List Cond := u_ws RX2 TX2 3
theorem nmX2 : ∀ a, a < 3 → ∀ b, b < 3 → a ≠ b → (TX2 a).2.1 ≠ (TX2 b).2.1 := by decide +kernel
theorem tyX2_ok : ∀ k, k < 3 → parseFieldDescriptor (TX2 k).2.2.1 = some (tyX2 k) := by decide +kernel
abbrev cX2_init : ByteArray := prog_4_method_1_code
def yX2_init : MethodName := ⟨RX2, "<init>", "(LPricedPairs$Table;LPricedPairs$Plans;)V"⟩
abbrev cX2_findLeast : ByteArray := prog_4_method_2_code
def yX2_findLeast : MethodName := ⟨RX2, "findLeast", "()V"⟩
abbrev cX2_greatestOf : ByteArray := prog_4_method_3_code
def yX2_greatestOf : MethodName := ⟨RX2, "greatestOf", "(I)I"⟩
abbrev cX2_sumOfLeast : ByteArray := prog_4_method_4_code
def yX2_sumOfLeast : MethodName := ⟨RX2, "sumOfLeast", "()I"⟩
abbrev cX2_sumOfGreatest : ByteArray := prog_4_method_5_code
def yX2_sumOfGreatest : MethodName := ⟨RX2, "sumOfGreatest", "()I"⟩
abbrev cX2_worthOf : ByteArray := prog_4_method_6_code
def yX2_worthOf : MethodName := ⟨RX2, "worthOf", "(I)I"⟩
abbrev cX2_sumOfWorths : ByteArray := prog_4_method_7_code
def yX2_sumOfWorths : MethodName := ⟨RX2, "sumOfWorths", "()I"⟩
abbrev cX2_tightTasksOf : ByteArray := prog_4_method_8_code
def yX2_tightTasksOf : MethodName := ⟨RX2, "tightTasksOf", "(I)I"⟩
abbrev cX2_tightPairs : ByteArray := prog_4_method_9_code
def yX2_tightPairs : MethodName := ⟨RX2, "tightPairs", "()I"⟩
def RX3 : String := "PricedPairs$Reader"
def TX3 : u_T := fun k => match k with
  | 0 => ("PricedPairs$Reader", "place", "I", false)
  | 1 => ("PricedPairs$Reader", "reason", "I", false)
  | 2 => ("PricedPairs$Reader", "found", "LPricedPairs$Table;", true)
  | _ => ("PricedPairs$Reader", "text", "LPricedPairs$Text;", true)
def tyX3 : Nat → FieldType := fun k => match k with
  | 0 => .int
  | 1 => .int
  | 2 => .object "PricedPairs$Table"
  | _ => .object "PricedPairs$Text"
abbrev wsX30 : List Cond := u_ws RX3 TX3 4
theorem nmX3 : ∀ a, a < 4 → ∀ b, b < 4 → a ≠ b → (TX3 a).2.1 ≠ (TX3 b).2.1 := by decide +kernel
theorem tyX3_ok : ∀ k, k < 4 → parseFieldDescriptor (TX3 k).2.2.1 = some (tyX3 k) := by decide +kernel
abbrev cX3_init : ByteArray := prog_5_method_1_code
def yX3_init : MethodName := ⟨RX3, "<init>", "(LPricedPairs$Text;)V"⟩
abbrev cX3_readText : ByteArray := prog_5_method_2_code
def yX3_readText : MethodName := ⟨RX3, "readText", "()V"⟩
abbrev cX3_readRow : ByteArray := prog_5_method_3_code
def yX3_readRow : MethodName := ⟨RX3, "readRow", "(I)V"⟩
abbrev cX3_readEntries : ByteArray := prog_5_method_4_code
def yX3_readEntries : MethodName := ⟨RX3, "readEntries", "(I)I"⟩
abbrev cX3_readEntry : ByteArray := prog_5_method_5_code
def yX3_readEntry : MethodName := ⟨RX3, "readEntry", "()I"⟩
abbrev cX3_readNumber : ByteArray := prog_5_method_6_code
def yX3_readNumber : MethodName := ⟨RX3, "readNumber", "()I"⟩
abbrev cX3_step : ByteArray := prog_5_method_7_code
def yX3_step : MethodName := ⟨RX3, "step", "(CZ)V"⟩
def RX4 : String := "PricedPairs$Table"
def TX4 : u_T := fun k => match k with
  | 0 => ("PricedPairs$Table", "workers", "I", false)
  | 1 => ("PricedPairs$Table", "tasks", "I", false)
  | 2 => ("PricedPairs$Table", "idleCosts", "[I", true)
  | _ => ("PricedPairs$Table", "costs", "[[I", true)
def tyX4 : Nat → FieldType := fun k => match k with
  | 0 => .int
  | 1 => .int
  | 2 => .array .int
  | _ => .array (.array .int)
abbrev wsX40 : List Cond := u_ws RX4 TX4 4
theorem nmX4 : ∀ a, a < 4 → ∀ b, b < 4 → a ≠ b → (TX4 a).2.1 ≠ (TX4 b).2.1 := by decide +kernel
theorem tyX4_ok : ∀ k, k < 4 → parseFieldDescriptor (TX4 k).2.2.1 = some (tyX4 k) := by decide +kernel
abbrev cX4_init : ByteArray := prog_6_method_1_code
def yX4_init : MethodName := ⟨RX4, "<init>", "()V"⟩
abbrev cX4_copyFrom : ByteArray := prog_6_method_2_code
def yX4_copyFrom : MethodName := ⟨RX4, "copyFrom", "(LPricedPairs$Table;)V"⟩
abbrev cX4_addWorker : ByteArray := prog_6_method_3_code
def yX4_addWorker : MethodName := ⟨RX4, "addWorker", "(I)V"⟩
abbrev cX4_addTask : ByteArray := prog_6_method_4_code
def yX4_addTask : MethodName := ⟨RX4, "addTask", "()V"⟩
abbrev cX4_removeWorker : ByteArray := prog_6_method_5_code
def yX4_removeWorker : MethodName := ⟨RX4, "removeWorker", "(I)V"⟩
abbrev cX4_removeTask : ByteArray := prog_6_method_6_code
def yX4_removeTask : MethodName := ⟨RX4, "removeTask", "(I)V"⟩
abbrev cX4_isBarred : ByteArray := prog_6_method_7_code
def yX4_isBarred : MethodName := ⟨RX4, "isBarred", "(II)Z"⟩
abbrev cX4_costWith : ByteArray := prog_6_method_8_code
def yX4_costWith : MethodName := ⟨RX4, "costWith", "(II)I"⟩
abbrev cX4_greatestCost : ByteArray := prog_6_method_9_code
def yX4_greatestCost : MethodName := ⟨RX4, "greatestCost", "(I)I"⟩
abbrev cX4_multiplyCosts : ByteArray := prog_6_method_10_code
def yX4_multiplyCosts : MethodName := ⟨RX4, "multiplyCosts", "(II)V"⟩
abbrev cX4_openPairs : ByteArray := prog_6_method_11_code
def yX4_openPairs : MethodName := ⟨RX4, "openPairs", "()I"⟩
abbrev cX4_allWorkers : ByteArray := prog_6_method_12_code
def yX4_allWorkers : MethodName := ⟨RX4, "allWorkers", "()I"⟩
abbrev cX4_allWorkersBut : ByteArray := prog_6_method_13_code
def yX4_allWorkersBut : MethodName := ⟨RX4, "allWorkersBut", "(I)I"⟩
def RX5 : String := "PricedPairs$Text"
def TX5 : u_T := fun k => match k with
  | 0 => ("PricedPairs$Text", "length", "I", false)
  | _ => ("PricedPairs$Text", "signs", "[C", true)
def tyX5 : Nat → FieldType := fun k => match k with
  | 0 => .int
  | _ => .array .char
abbrev wsX50 : List Cond := u_ws RX5 TX5 2
theorem nmX5 : ∀ a, a < 2 → ∀ b, b < 2 → a ≠ b → (TX5 a).2.1 ≠ (TX5 b).2.1 := by decide +kernel
theorem tyX5_ok : ∀ k, k < 2 → parseFieldDescriptor (TX5 k).2.2.1 = some (tyX5 k) := by decide +kernel
abbrev cX5_init : ByteArray := prog_7_method_1_code
def yX5_init : MethodName := ⟨RX5, "<init>", "()V"⟩
abbrev cX5_append : ByteArray := prog_7_method_2_code
def yX5_append : MethodName := ⟨RX5, "append", "(C)V"⟩
abbrev cX5_isAt : ByteArray := prog_7_method_3_code
def yX5_isAt : MethodName := ⟨RX5, "isAt", "(IC)Z"⟩
abbrev cX5_digitAt : ByteArray := prog_7_method_4_code
def yX5_digitAt : MethodName := ⟨RX5, "digitAt", "(I)I"⟩
def RX6 : String := "PricedPairs"
def TX6 : u_T := fun k => match k with
  | 0 => ("PricedPairs", "table", "LPricedPairs$Table;", true)
  | 1 => ("PricedPairs", "history", "LPricedPairs$History;", true)
  | 2 => ("PricedPairs", "plans", "LPricedPairs$Plans;", true)
  | 3 => ("PricedPairs", "prices", "LPricedPairs$Prices;", true)
  | 4 => ("PricedPairs", "text", "LPricedPairs$Text;", true)
  | _ => ("PricedPairs", "reader", "LPricedPairs$Reader;", true)
def tyX6 : Nat → FieldType := fun k => match k with
  | 0 => .object "PricedPairs$Table"
  | 1 => .object "PricedPairs$History"
  | 2 => .object "PricedPairs$Plans"
  | 3 => .object "PricedPairs$Prices"
  | 4 => .object "PricedPairs$Text"
  | _ => .object "PricedPairs$Reader"
abbrev wsX60 : List Cond := u_ws RX6 TX6 6
theorem nmX6 : ∀ a, a < 6 → ∀ b, b < 6 → a ≠ b → (TX6 a).2.1 ≠ (TX6 b).2.1 := by decide +kernel
theorem tyX6_ok : ∀ k, k < 6 → parseFieldDescriptor (TX6 k).2.2.1 = some (tyX6 k) := by decide +kernel
abbrev cX6_init : ByteArray := prog_1_method_1_code
def yX6_init : MethodName := ⟨RX6, "<init>", "()V"⟩
abbrev cX6_worker : ByteArray := prog_1_method_2_code
def yX6_worker : MethodName := ⟨RX6, "worker", "(I)I"⟩
abbrev cX6_task : ByteArray := prog_1_method_3_code
def yX6_task : MethodName := ⟨RX6, "task", "()I"⟩
abbrev cX6_dropWorker : ByteArray := prog_1_method_4_code
def yX6_dropWorker : MethodName := ⟨RX6, "dropWorker", "(I)I"⟩
abbrev cX6_dropTask : ByteArray := prog_1_method_5_code
def yX6_dropTask : MethodName := ⟨RX6, "dropTask", "(I)I"⟩
abbrev cX6_cost : ByteArray := prog_1_method_6_code
def yX6_cost : MethodName := ⟨RX6, "cost", "(III)I"⟩
abbrev cX6_bar : ByteArray := prog_1_method_7_code
def yX6_bar : MethodName := ⟨RX6, "bar", "(II)I"⟩
abbrev cX6_idle : ByteArray := prog_1_method_8_code
def yX6_idle : MethodName := ⟨RX6, "idle", "(II)I"⟩
abbrev cX6_times : ByteArray := prog_1_method_9_code
def yX6_times : MethodName := ⟨RX6, "times", "(II)I"⟩
abbrev cX6_costOf : ByteArray := prog_1_method_10_code
def yX6_costOf : MethodName := ⟨RX6, "costOf", "(II)I"⟩
abbrev cX6_total : ByteArray := prog_1_method_11_code
def yX6_total : MethodName := ⟨RX6, "total", "()I"⟩
abbrev cX6_taskOf : ByteArray := prog_1_method_12_code
def yX6_taskOf : MethodName := ⟨RX6, "taskOf", "(I)I"⟩
abbrev cX6_workerOf : ByteArray := prog_1_method_13_code
def yX6_workerOf : MethodName := ⟨RX6, "workerOf", "(I)I"⟩
abbrev cX6_price : ByteArray := prog_1_method_15_code
def yX6_price : MethodName := ⟨RX6, "price", "(II)I"⟩
abbrev cX6_workerIs : ByteArray := prog_1_method_16_code
def yX6_workerIs : MethodName := ⟨RX6, "workerIs", "(II)I"⟩
abbrev cX6_proof : ByteArray := prog_1_method_17_code
def yX6_proof : MethodName := ⟨RX6, "proof", "()I"⟩
abbrev cX6_count : ByteArray := prog_1_method_21_code
def yX6_count : MethodName := ⟨RX6, "count", "(I)I"⟩
abbrev cX6_type : ByteArray := prog_1_method_23_code
def yX6_type : MethodName := ⟨RX6, "type", "(I)I"⟩
abbrev cX6_clearText : ByteArray := prog_1_method_24_code
def yX6_clearText : MethodName := ⟨RX6, "clearText", "()I"⟩
abbrev cX6_fault : ByteArray := prog_1_method_25_code
def yX6_fault : MethodName := ⟨RX6, "fault", "(I)I"⟩
abbrev cX6_read : ByteArray := prog_1_method_26_code
def yX6_read : MethodName := ⟨RX6, "read", "()I"⟩
abbrev cX6_isWorker : ByteArray := prog_1_method_27_code
def yX6_isWorker : MethodName := ⟨RX6, "isWorker", "(I)Z"⟩
abbrev cX6_isTask : ByteArray := prog_1_method_28_code
def yX6_isTask : MethodName := ⟨RX6, "isTask", "(I)Z"⟩
abbrev cX6_isTaskOrNone : ByteArray := prog_1_method_29_code
def yX6_isTaskOrNone : MethodName := ⟨RX6, "isTaskOrNone", "(I)Z"⟩
abbrev cX6_isCost : ByteArray := prog_1_method_30_code
def yX6_isCost : MethodName := ⟨RX6, "isCost", "(I)Z"⟩
abbrev cX6_changePair : ByteArray := prog_1_method_31_code
def yX6_changePair : MethodName := ⟨RX6, "changePair", "(III)I"⟩
def RX7 : String := "PricedPairsModel"
def TX7 : u_T := fun k => match k with
  | _ => ("", "", "", false)
def tyX7 : Nat → FieldType := fun k => match k with
  | _ => .int
abbrev wsX70 : List Cond := u_ws RX7 TX7 0
theorem nmX7 : ∀ a, a < 0 → ∀ b, b < 0 → a ≠ b → (TX7 a).2.1 ≠ (TX7 b).2.1 := by decide +kernel
theorem tyX7_ok : ∀ k, k < 0 → parseFieldDescriptor (TX7 k).2.2.1 = some (tyX7 k) := by decide +kernel
def RJ6 : String := "java/lang/Integer"
def TJ6 : u_T := fun k => match k with
  | _ => ("", "", "", false)
def tyJ6 : Nat → FieldType := fun k => match k with
  | _ => .int
abbrev wsJ60 : List Cond := u_ws RJ6 TJ6 0
theorem nmJ6 : ∀ a, a < 0 → ∀ b, b < 0 → a ≠ b → (TJ6 a).2.1 ≠ (TJ6 b).2.1 := by decide +kernel
theorem tyJ6_ok : ∀ k, k < 0 → parseFieldDescriptor (TJ6 k).2.2.1 = some (tyJ6 k) := by decide +kernel
abbrev cJ6_bitCount_0f7a4 : ByteArray := prog_10_method_49_code
def yJ6_bitCount_0f7a4 : MethodName := ⟨RJ6, "bitCount", "(I)I"⟩
def RJ9 : String := "java/lang/Math"
def TJ9 : u_T := fun k => match k with
  | _ => ("", "", "", false)
def tyJ9 : Nat → FieldType := fun k => match k with
  | _ => .int
abbrev wsJ90 : List Cond := u_ws RJ9 TJ9 0
theorem nmJ9 : ∀ a, a < 0 → ∀ b, b < 0 → a ≠ b → (TJ9 a).2.1 ≠ (TJ9 b).2.1 := by decide +kernel
theorem tyJ9_ok : ∀ k, k < 0 → parseFieldDescriptor (TJ9 k).2.2.1 = some (tyJ9 k) := by decide +kernel
abbrev cJ9_max_7cf53 : ByteArray := prog_11_method_65_code
def yJ9_max_7cf53 : MethodName := ⟨RJ9, "max", "(II)I"⟩
abbrev cJ9_min_7cf53 : ByteArray := prog_11_method_69_code
def yJ9_min_7cf53 : MethodName := ⟨RJ9, "min", "(II)I"⟩
def RL : String := "PricedPairsLaw"
abbrev cL_cell : ByteArray := method_2_code
def yL_cell : MethodName := ⟨RL, "cell", "([II)I"⟩
abbrev cL_low : ByteArray := method_3_code
def yL_low : MethodName := ⟨RL, "low", "(II)I"⟩
abbrev cL_reads : ByteArray := method_4_code
def yL_reads : MethodName := ⟨RL, "reads", "(LPricedPairs;[I[I[II)Z"⟩
abbrev cL_tables : ByteArray := method_5_code
def yL_tables : MethodName := ⟨RL, "tables", "(LPricedPairs;[I[I[III)Z"⟩
abbrev cL_acts : ByteArray := method_6_code
def yL_acts : MethodName := ⟨RL, "acts", "(LPricedPairs;[I[I[II)Z"⟩
abbrev cL_isProved : ByteArray := method_7_code
def yL_isProved : MethodName := ⟨RL, "isProved", "(LPricedPairs;[I[I[I)Z"⟩
abbrev cL_isSo : ByteArray := method_8_code
def yL_isSo : MethodName := ⟨RL, "isSo", "(LPricedPairs;[I[I[I)Z"⟩
abbrev cL_law : ByteArray := code
def yL_law : MethodName := ⟨RL, "law", "([I)Z"⟩
def wsX4_init : List Cond := .code yX4_init cX4_init 1 none :: ([.methodLink RX4 3 objectInit, .instanceMethod objectInit, .code objectInit ⟨#[0xb1]⟩ 1 none, .arrayClass .int, .fieldLink RX4 9 "PricedPairs$Table" "idleCosts" "[I", .classLink RX4 15 "[[I", .fieldLink RX4 17 "PricedPairs$Table" "costs" "[[I"] ++ wsX40)
def wsX0_init : List Cond := .code yX0_init cX0_init 2 none :: ([.methodLink RX0 3 objectInit, .instanceMethod objectInit, .code objectInit ⟨#[0xb1]⟩ 1 none, .classLink RX0 9 RX4, .fieldLink RX0 11 "PricedPairs$History" "states" "[LPricedPairs$Table;", .instantiable RX4 4, .initialized RX4, .methodLink RX0 17 yX4_init, .instanceMethod yX4_init, .code yX4_init cX4_init 1 none, .methodLink RX4 3 objectInit, .arrayClass .int, .fieldLink RX4 9 "PricedPairs$Table" "idleCosts" "[I", .classLink RX4 15 "[[I", .fieldLink RX4 17 "PricedPairs$Table" "costs" "[[I"] ++ wsX00 ++ wsX40)
def wsX0_dropOldest : List Cond := .code yX0_dropOldest cX0_dropOldest 3 none :: ([.fieldLink RX0 11 "PricedPairs$History" "states" "[LPricedPairs$Table;", .fieldLink RX0 18 "PricedPairs$History" "size" "I"] ++ wsX00)
def wsX4_copyFrom : List Cond := .code yX4_copyFrom cX4_copyFrom 4 none :: ([.fieldLink RX4 20 "PricedPairs$Table" "workers" "I", .fieldLink RX4 24 "PricedPairs$Table" "tasks" "I", .fieldLink RX4 9 "PricedPairs$Table" "idleCosts" "[I", .fieldLink RX4 17 "PricedPairs$Table" "costs" "[[I"] ++ wsX40)
def wsX0_keep : List Cond := .code yX0_keep cX0_keep 2 none :: ([.fieldLink RX0 18 "PricedPairs$History" "size" "I", .fieldLink RX0 11 "PricedPairs$History" "states" "[LPricedPairs$Table;", .methodLink RX0 22 yX0_dropOldest, .instanceMethod yX0_dropOldest, .selects RX0 yX0_dropOldest yX0_dropOldest, .initialized RX0, .code yX0_dropOldest cX0_dropOldest 3 none, .methodLink RX0 25 yX4_copyFrom, .instanceMethod yX4_copyFrom, .selects RX4 yX4_copyFrom yX4_copyFrom, .initialized RX4, .code yX4_copyFrom cX4_copyFrom 4 none, .fieldLink RX4 20 "PricedPairs$Table" "workers" "I", .fieldLink RX4 24 "PricedPairs$Table" "tasks" "I", .fieldLink RX4 9 "PricedPairs$Table" "idleCosts" "[I", .fieldLink RX4 17 "PricedPairs$Table" "costs" "[[I"] ++ wsX00 ++ wsX40)
def wsX1_init : List Cond := .code yX1_init cX1_init 2 none :: ([.methodLink RX1 3 objectInit, .instanceMethod objectInit, .code objectInit ⟨#[0xb1]⟩ 1 none, .fieldLink RX1 9 "PricedPairs$Plans" "table" "LPricedPairs$Table;", .arrayClass .int, .fieldLink RX1 15 "PricedPairs$Plans" "chosen" "[I", .classLink RX1 19 "[[I", .fieldLink RX1 21 "PricedPairs$Plans" "least" "[[I"] ++ wsX10)
def wsX4_allWorkers : List Cond := .code yX4_allWorkers cX4_allWorkers 1 (some .int) :: ([.fieldLink RX4 20 "PricedPairs$Table" "workers" "I"] ++ wsX40)
def wsX1_totalFrom : List Cond := .code yX1_totalFrom cX1_totalFrom 5 (some .int) :: ([.fieldLink RX1 9 "PricedPairs$Plans" "table" "LPricedPairs$Table;", .fieldLink RX1 61 "PricedPairs$Table" "costs" "[[I", .constant RX1 64 (1000000), .fieldLink RX1 21 "PricedPairs$Plans" "least" "[[I"] ++ wsX10 ++ wsX40)
def wsX1_leastFrom : List Cond := .code yX1_leastFrom cX1_leastFrom 5 (some .int) :: ([.fieldLink RX1 9 "PricedPairs$Plans" "table" "LPricedPairs$Table;", .fieldLink RX1 49 "PricedPairs$Table" "idleCosts" "[I", .fieldLink RX1 21 "PricedPairs$Plans" "least" "[[I", .fieldLink RX1 38 "PricedPairs$Table" "tasks" "I", .methodLink RX1 56 Lib.Math.min.name, .static Lib.Math.min.name, .initialized "java/lang/Math", .code Lib.Math.min.name Lib.Math.min.code 2 (some .int), .methodLink RX1 52 yX1_totalFrom, .instanceMethod yX1_totalFrom, .selects RX1 yX1_totalFrom yX1_totalFrom, .initialized RX1, .code yX1_totalFrom cX1_totalFrom 5 (some .int), .fieldLink RX1 61 "PricedPairs$Table" "costs" "[[I", .constant RX1 64 (1000000)] ++ wsX10 ++ wsX40)
def wsX1_weigh : List Cond := .code yX1_weigh cX1_weigh 6 none :: ([.fieldLink RX1 9 "PricedPairs$Plans" "table" "LPricedPairs$Table;", .fieldLink RX1 38 "PricedPairs$Table" "tasks" "I", .fieldLink RX1 21 "PricedPairs$Plans" "least" "[[I", .fieldLink RX1 42 "PricedPairs$Table" "workers" "I", .methodLink RX1 45 yX1_leastFrom, .instanceMethod yX1_leastFrom, .selects RX1 yX1_leastFrom yX1_leastFrom, .initialized RX1, .code yX1_leastFrom cX1_leastFrom 5 (some .int), .fieldLink RX1 49 "PricedPairs$Table" "idleCosts" "[I", .methodLink RX1 56 Lib.Math.min.name, .static Lib.Math.min.name, .initialized "java/lang/Math", .code Lib.Math.min.name Lib.Math.min.code 2 (some .int), .methodLink RX1 52 yX1_totalFrom, .instanceMethod yX1_totalFrom, .selects RX1 yX1_totalFrom yX1_totalFrom, .code yX1_totalFrom cX1_totalFrom 5 (some .int), .fieldLink RX1 61 "PricedPairs$Table" "costs" "[[I", .constant RX1 64 (1000000)] ++ wsX10 ++ wsX40)
def wsX1_leastTotalOf : List Cond := .code yX1_leastTotalOf cX1_leastTotalOf 2 (some .int) :: ([.fieldLink RX1 21 "PricedPairs$Plans" "least" "[[I", .methodLink RX1 34 yX1_weigh, .instanceMethod yX1_weigh, .selects RX1 yX1_weigh yX1_weigh, .initialized RX1, .code yX1_weigh cX1_weigh 6 none, .fieldLink RX1 9 "PricedPairs$Plans" "table" "LPricedPairs$Table;", .fieldLink RX1 38 "PricedPairs$Table" "tasks" "I", .fieldLink RX1 42 "PricedPairs$Table" "workers" "I", .methodLink RX1 45 yX1_leastFrom, .instanceMethod yX1_leastFrom, .selects RX1 yX1_leastFrom yX1_leastFrom, .code yX1_leastFrom cX1_leastFrom 5 (some .int), .fieldLink RX1 49 "PricedPairs$Table" "idleCosts" "[I", .methodLink RX1 56 Lib.Math.min.name, .static Lib.Math.min.name, .initialized "java/lang/Math", .code Lib.Math.min.name Lib.Math.min.code 2 (some .int), .methodLink RX1 52 yX1_totalFrom, .instanceMethod yX1_totalFrom, .selects RX1 yX1_totalFrom yX1_totalFrom, .code yX1_totalFrom cX1_totalFrom 5 (some .int), .fieldLink RX1 61 "PricedPairs$Table" "costs" "[[I", .constant RX1 64 (1000000)] ++ wsX10 ++ wsX40)
def wsX1_leastTotal_r1 : List Cond := [Cond.fieldLink RX1 9 "PricedPairs$Plans" "table" "LPricedPairs$Table;", Cond.methodLink RX1 24 yX4_allWorkers, Cond.instanceMethod yX4_allWorkers, Cond.selects RX4 yX4_allWorkers yX4_allWorkers, Cond.initialized RX4, Cond.code yX4_allWorkers cX4_allWorkers 1 (some .int), Cond.fieldLink RX4 20 "PricedPairs$Table" "workers" "I", Cond.methodLink RX1 30 yX1_leastTotalOf, Cond.instanceMethod yX1_leastTotalOf, Cond.selects RX1 yX1_leastTotalOf yX1_leastTotalOf, Cond.initialized RX1, Cond.code yX1_leastTotalOf cX1_leastTotalOf 2 (some .int), Cond.fieldLink RX1 21 "PricedPairs$Plans" "least" "[[I", Cond.methodLink RX1 34 yX1_weigh, Cond.instanceMethod yX1_weigh, Cond.selects RX1 yX1_weigh yX1_weigh, Cond.code yX1_weigh cX1_weigh 6 none, Cond.fieldLink RX1 38 "PricedPairs$Table" "tasks" "I", Cond.fieldLink RX1 42 "PricedPairs$Table" "workers" "I", Cond.methodLink RX1 45 yX1_leastFrom, Cond.instanceMethod yX1_leastFrom, Cond.selects RX1 yX1_leastFrom yX1_leastFrom, Cond.code yX1_leastFrom cX1_leastFrom 5 (some .int), Cond.fieldLink RX1 49 "PricedPairs$Table" "idleCosts" "[I"]
def wsX1_leastTotal_r2 : List Cond := [Cond.methodLink RX1 56 Lib.Math.min.name, Cond.static Lib.Math.min.name, Cond.initialized "java/lang/Math", Cond.code Lib.Math.min.name Lib.Math.min.code 2 (some .int), Cond.methodLink RX1 52 yX1_totalFrom, Cond.instanceMethod yX1_totalFrom, Cond.selects RX1 yX1_totalFrom yX1_totalFrom, Cond.code yX1_totalFrom cX1_totalFrom 5 (some .int), Cond.fieldLink RX1 61 "PricedPairs$Table" "costs" "[[I", Cond.constant RX1 64 (1000000)]
def wsX1_leastTotal : List Cond := .code yX1_leastTotal cX1_leastTotal 1 (some .int) :: ((wsX1_leastTotal_r1 ++ wsX1_leastTotal_r2) ++ wsX10 ++ wsX40)
def wsX1_lossWithoutTask_r1 : List Cond := [Cond.fieldLink RX1 9 "PricedPairs$Plans" "table" "LPricedPairs$Table;", Cond.fieldLink RX1 21 "PricedPairs$Plans" "least" "[[I", Cond.methodLink RX1 24 yX4_allWorkers, Cond.instanceMethod yX4_allWorkers, Cond.selects RX4 yX4_allWorkers yX4_allWorkers, Cond.initialized RX4, Cond.code yX4_allWorkers cX4_allWorkers 1 (some .int), Cond.fieldLink RX4 20 "PricedPairs$Table" "workers" "I", Cond.methodLink RX1 34 yX1_weigh, Cond.instanceMethod yX1_weigh, Cond.selects RX1 yX1_weigh yX1_weigh, Cond.initialized RX1, Cond.code yX1_weigh cX1_weigh 6 none, Cond.fieldLink RX1 38 "PricedPairs$Table" "tasks" "I", Cond.fieldLink RX1 42 "PricedPairs$Table" "workers" "I", Cond.methodLink RX1 45 yX1_leastFrom, Cond.instanceMethod yX1_leastFrom, Cond.selects RX1 yX1_leastFrom yX1_leastFrom, Cond.code yX1_leastFrom cX1_leastFrom 5 (some .int), Cond.fieldLink RX1 49 "PricedPairs$Table" "idleCosts" "[I", Cond.methodLink RX1 56 Lib.Math.min.name, Cond.static Lib.Math.min.name, Cond.initialized "java/lang/Math", Cond.code Lib.Math.min.name Lib.Math.min.code 2 (some .int)]
def wsX1_lossWithoutTask_r2 : List Cond := [Cond.methodLink RX1 52 yX1_totalFrom, Cond.instanceMethod yX1_totalFrom, Cond.selects RX1 yX1_totalFrom yX1_totalFrom, Cond.code yX1_totalFrom cX1_totalFrom 5 (some .int), Cond.fieldLink RX1 61 "PricedPairs$Table" "costs" "[[I", Cond.constant RX1 64 (1000000)]
def wsX1_lossWithoutTask : List Cond := .code yX1_lossWithoutTask cX1_lossWithoutTask 2 (some .int) :: ((wsX1_lossWithoutTask_r1 ++ wsX1_lossWithoutTask_r2) ++ wsX10 ++ wsX40)
def wsX1_lowestBestTask : List Cond := .code yX1_lowestBestTask cX1_lowestBestTask 4 (some .int) :: ([.fieldLink RX1 9 "PricedPairs$Plans" "table" "LPricedPairs$Table;", .fieldLink RX1 38 "PricedPairs$Table" "tasks" "I", .fieldLink RX1 21 "PricedPairs$Plans" "least" "[[I", .methodLink RX1 52 yX1_totalFrom, .instanceMethod yX1_totalFrom, .selects RX1 yX1_totalFrom yX1_totalFrom, .initialized RX1, .code yX1_totalFrom cX1_totalFrom 5 (some .int), .fieldLink RX1 61 "PricedPairs$Table" "costs" "[[I", .constant RX1 64 (1000000)] ++ wsX10 ++ wsX40)
def wsX1_chooseFirst_r1 : List Cond := [Cond.fieldLink RX1 68 "PricedPairs$Plans" "chosenTotal" "I", Cond.fieldLink RX1 9 "PricedPairs$Plans" "table" "LPricedPairs$Table;", Cond.fieldLink RX1 42 "PricedPairs$Table" "workers" "I", Cond.fieldLink RX1 15 "PricedPairs$Plans" "chosen" "[I", Cond.methodLink RX1 65 yX1_leastTotal, Cond.instanceMethod yX1_leastTotal, Cond.selects RX1 yX1_leastTotal yX1_leastTotal, Cond.initialized RX1, Cond.code yX1_leastTotal cX1_leastTotal 1 (some .int), Cond.methodLink RX1 24 yX4_allWorkers, Cond.instanceMethod yX4_allWorkers, Cond.selects RX4 yX4_allWorkers yX4_allWorkers, Cond.initialized RX4, Cond.code yX4_allWorkers cX4_allWorkers 1 (some .int), Cond.fieldLink RX4 20 "PricedPairs$Table" "workers" "I", Cond.methodLink RX1 30 yX1_leastTotalOf, Cond.instanceMethod yX1_leastTotalOf, Cond.selects RX1 yX1_leastTotalOf yX1_leastTotalOf, Cond.code yX1_leastTotalOf cX1_leastTotalOf 2 (some .int), Cond.fieldLink RX1 21 "PricedPairs$Plans" "least" "[[I", Cond.methodLink RX1 34 yX1_weigh, Cond.instanceMethod yX1_weigh, Cond.selects RX1 yX1_weigh yX1_weigh, Cond.code yX1_weigh cX1_weigh 6 none]
def wsX1_chooseFirst_r2 : List Cond := [Cond.fieldLink RX1 38 "PricedPairs$Table" "tasks" "I", Cond.methodLink RX1 45 yX1_leastFrom, Cond.instanceMethod yX1_leastFrom, Cond.selects RX1 yX1_leastFrom yX1_leastFrom, Cond.code yX1_leastFrom cX1_leastFrom 5 (some .int), Cond.fieldLink RX1 49 "PricedPairs$Table" "idleCosts" "[I", Cond.methodLink RX1 56 Lib.Math.min.name, Cond.static Lib.Math.min.name, Cond.initialized "java/lang/Math", Cond.code Lib.Math.min.name Lib.Math.min.code 2 (some .int), Cond.methodLink RX1 52 yX1_totalFrom, Cond.instanceMethod yX1_totalFrom, Cond.selects RX1 yX1_totalFrom yX1_totalFrom, Cond.code yX1_totalFrom cX1_totalFrom 5 (some .int), Cond.fieldLink RX1 61 "PricedPairs$Table" "costs" "[[I", Cond.constant RX1 64 (1000000), Cond.methodLink RX1 71 yX1_lowestBestTask, Cond.instanceMethod yX1_lowestBestTask, Cond.selects RX1 yX1_lowestBestTask yX1_lowestBestTask, Cond.code yX1_lowestBestTask cX1_lowestBestTask 4 (some .int)]
def wsX1_chooseFirst : List Cond := .code yX1_chooseFirst cX1_chooseFirst 3 none :: ((wsX1_chooseFirst_r1 ++ wsX1_chooseFirst_r2) ++ wsX10 ++ wsX40)
def wsX1_chosenPairs : List Cond := .code yX1_chosenPairs cX1_chosenPairs 3 (some .int) :: ([.fieldLink RX1 9 "PricedPairs$Plans" "table" "LPricedPairs$Table;", .fieldLink RX1 42 "PricedPairs$Table" "workers" "I", .fieldLink RX1 15 "PricedPairs$Plans" "chosen" "[I"] ++ wsX10 ++ wsX40)
def wsX2_init : List Cond := .code yX2_init cX2_init 3 none :: ([.methodLink RX2 3 objectInit, .instanceMethod objectInit, .code objectInit ⟨#[0xb1]⟩ 1 none, .fieldLink RX2 9 "PricedPairs$Prices" "table" "LPricedPairs$Table;", .fieldLink RX2 15 "PricedPairs$Prices" "plans" "LPricedPairs$Plans;", .arrayClass .int, .fieldLink RX2 19 "PricedPairs$Prices" "least" "[I"] ++ wsX20)
def wsX4_allWorkersBut : List Cond := .code yX4_allWorkersBut cX4_allWorkersBut 2 (some .int) :: ([.methodLink RX4 37 yX4_allWorkers, .instanceMethod yX4_allWorkers, .selects RX4 yX4_allWorkers yX4_allWorkers, .initialized RX4, .code yX4_allWorkers cX4_allWorkers 1 (some .int), .fieldLink RX4 20 "PricedPairs$Table" "workers" "I"] ++ wsX40)
def wsX4_isBarred : List Cond := .code yX4_isBarred cX4_isBarred 3 (some .boolean) :: ([.fieldLink RX4 17 "PricedPairs$Table" "costs" "[[I"] ++ wsX40)
def wsX2_findLeast_r1 : List Cond := [Cond.fieldLink RX2 9 "PricedPairs$Prices" "table" "LPricedPairs$Table;", Cond.fieldLink RX2 23 "PricedPairs$Table" "tasks" "I", Cond.fieldLink RX2 19 "PricedPairs$Prices" "least" "[I", Cond.fieldLink RX2 15 "PricedPairs$Prices" "plans" "LPricedPairs$Plans;", Cond.fieldLink RX2 35 "PricedPairs$Table" "workers" "I", Cond.fieldLink RX2 49 "PricedPairs$Table" "costs" "[[I", Cond.methodLink RX2 53 Lib.Math.max.name, Cond.static Lib.Math.max.name, Cond.initialized "java/lang/Math", Cond.code Lib.Math.max.name Lib.Math.max.code 2 (some .int), Cond.methodLink RX2 29 yX1_leastTotal, Cond.instanceMethod yX1_leastTotal, Cond.selects RX1 yX1_leastTotal yX1_leastTotal, Cond.initialized RX1, Cond.code yX1_leastTotal cX1_leastTotal 1 (some .int), Cond.fieldLink RX1 9 "PricedPairs$Plans" "table" "LPricedPairs$Table;", Cond.methodLink RX1 24 yX4_allWorkers, Cond.instanceMethod yX4_allWorkers, Cond.selects RX4 yX4_allWorkers yX4_allWorkers, Cond.initialized RX4, Cond.code yX4_allWorkers cX4_allWorkers 1 (some .int), Cond.fieldLink RX4 20 "PricedPairs$Table" "workers" "I", Cond.methodLink RX1 30 yX1_leastTotalOf, Cond.instanceMethod yX1_leastTotalOf]
def wsX2_findLeast_r2 : List Cond := [Cond.selects RX1 yX1_leastTotalOf yX1_leastTotalOf, Cond.code yX1_leastTotalOf cX1_leastTotalOf 2 (some .int), Cond.fieldLink RX1 21 "PricedPairs$Plans" "least" "[[I", Cond.methodLink RX1 34 yX1_weigh, Cond.instanceMethod yX1_weigh, Cond.selects RX1 yX1_weigh yX1_weigh, Cond.code yX1_weigh cX1_weigh 6 none, Cond.fieldLink RX1 38 "PricedPairs$Table" "tasks" "I", Cond.fieldLink RX1 42 "PricedPairs$Table" "workers" "I", Cond.methodLink RX1 45 yX1_leastFrom, Cond.instanceMethod yX1_leastFrom, Cond.selects RX1 yX1_leastFrom yX1_leastFrom, Cond.code yX1_leastFrom cX1_leastFrom 5 (some .int), Cond.fieldLink RX1 49 "PricedPairs$Table" "idleCosts" "[I", Cond.methodLink RX1 56 Lib.Math.min.name, Cond.static Lib.Math.min.name, Cond.code Lib.Math.min.name Lib.Math.min.code 2 (some .int), Cond.methodLink RX1 52 yX1_totalFrom, Cond.instanceMethod yX1_totalFrom, Cond.selects RX1 yX1_totalFrom yX1_totalFrom, Cond.code yX1_totalFrom cX1_totalFrom 5 (some .int), Cond.fieldLink RX1 61 "PricedPairs$Table" "costs" "[[I", Cond.constant RX1 64 (1000000), Cond.methodLink RX2 38 yX4_allWorkersBut]
def wsX2_findLeast_r3 : List Cond := [Cond.instanceMethod yX4_allWorkersBut, Cond.selects RX4 yX4_allWorkersBut yX4_allWorkersBut, Cond.code yX4_allWorkersBut cX4_allWorkersBut 2 (some .int), Cond.methodLink RX4 37 yX4_allWorkers, Cond.methodLink RX2 42 yX1_leastTotalOf, Cond.methodLink RX2 45 yX4_isBarred, Cond.instanceMethod yX4_isBarred, Cond.selects RX4 yX4_isBarred yX4_isBarred, Cond.code yX4_isBarred cX4_isBarred 3 (some .boolean), Cond.fieldLink RX4 17 "PricedPairs$Table" "costs" "[[I"]
def wsX2_findLeast : List Cond := .code yX2_findLeast cX2_findLeast 5 none :: ((wsX2_findLeast_r1 ++ (wsX2_findLeast_r2 ++ wsX2_findLeast_r3)) ++ wsX20 ++ wsX40 ++ wsX10)
def wsX2_greatestOf_r1 : List Cond := [Cond.fieldLink RX2 15 "PricedPairs$Prices" "plans" "LPricedPairs$Plans;", Cond.methodLink RX2 59 yX1_lossWithoutTask, Cond.instanceMethod yX1_lossWithoutTask, Cond.selects RX1 yX1_lossWithoutTask yX1_lossWithoutTask, Cond.initialized RX1, Cond.code yX1_lossWithoutTask cX1_lossWithoutTask 2 (some .int), Cond.fieldLink RX1 9 "PricedPairs$Plans" "table" "LPricedPairs$Table;", Cond.fieldLink RX1 21 "PricedPairs$Plans" "least" "[[I", Cond.methodLink RX1 24 yX4_allWorkers, Cond.instanceMethod yX4_allWorkers, Cond.selects RX4 yX4_allWorkers yX4_allWorkers, Cond.initialized RX4, Cond.code yX4_allWorkers cX4_allWorkers 1 (some .int), Cond.fieldLink RX4 20 "PricedPairs$Table" "workers" "I", Cond.methodLink RX1 34 yX1_weigh, Cond.instanceMethod yX1_weigh, Cond.selects RX1 yX1_weigh yX1_weigh, Cond.code yX1_weigh cX1_weigh 6 none, Cond.fieldLink RX1 38 "PricedPairs$Table" "tasks" "I", Cond.fieldLink RX1 42 "PricedPairs$Table" "workers" "I", Cond.methodLink RX1 45 yX1_leastFrom, Cond.instanceMethod yX1_leastFrom, Cond.selects RX1 yX1_leastFrom yX1_leastFrom, Cond.code yX1_leastFrom cX1_leastFrom 5 (some .int)]
def wsX2_greatestOf_r2 : List Cond := [Cond.fieldLink RX1 49 "PricedPairs$Table" "idleCosts" "[I", Cond.methodLink RX1 56 Lib.Math.min.name, Cond.static Lib.Math.min.name, Cond.initialized "java/lang/Math", Cond.code Lib.Math.min.name Lib.Math.min.code 2 (some .int), Cond.methodLink RX1 52 yX1_totalFrom, Cond.instanceMethod yX1_totalFrom, Cond.selects RX1 yX1_totalFrom yX1_totalFrom, Cond.code yX1_totalFrom cX1_totalFrom 5 (some .int), Cond.fieldLink RX1 61 "PricedPairs$Table" "costs" "[[I", Cond.constant RX1 64 (1000000)]
def wsX2_greatestOf : List Cond := .code yX2_greatestOf cX2_greatestOf 2 (some .int) :: ((wsX2_greatestOf_r1 ++ wsX2_greatestOf_r2) ++ wsX20 ++ wsX10 ++ wsX40)
def wsX2_sumOfLeast : List Cond := .code yX2_sumOfLeast cX2_sumOfLeast 3 (some .int) :: ([.fieldLink RX2 9 "PricedPairs$Prices" "table" "LPricedPairs$Table;", .fieldLink RX2 23 "PricedPairs$Table" "tasks" "I", .fieldLink RX2 19 "PricedPairs$Prices" "least" "[I"] ++ wsX20 ++ wsX40)
def wsX2_sumOfGreatest_r1 : List Cond := [Cond.fieldLink RX2 9 "PricedPairs$Prices" "table" "LPricedPairs$Table;", Cond.fieldLink RX2 23 "PricedPairs$Table" "tasks" "I", Cond.methodLink RX2 62 yX2_greatestOf, Cond.instanceMethod yX2_greatestOf, Cond.selects RX2 yX2_greatestOf yX2_greatestOf, Cond.initialized RX2, Cond.code yX2_greatestOf cX2_greatestOf 2 (some .int), Cond.fieldLink RX2 15 "PricedPairs$Prices" "plans" "LPricedPairs$Plans;", Cond.methodLink RX2 59 yX1_lossWithoutTask, Cond.instanceMethod yX1_lossWithoutTask, Cond.selects RX1 yX1_lossWithoutTask yX1_lossWithoutTask, Cond.initialized RX1, Cond.code yX1_lossWithoutTask cX1_lossWithoutTask 2 (some .int), Cond.fieldLink RX1 9 "PricedPairs$Plans" "table" "LPricedPairs$Table;", Cond.fieldLink RX1 21 "PricedPairs$Plans" "least" "[[I", Cond.methodLink RX1 24 yX4_allWorkers, Cond.instanceMethod yX4_allWorkers, Cond.selects RX4 yX4_allWorkers yX4_allWorkers, Cond.initialized RX4, Cond.code yX4_allWorkers cX4_allWorkers 1 (some .int), Cond.fieldLink RX4 20 "PricedPairs$Table" "workers" "I", Cond.methodLink RX1 34 yX1_weigh, Cond.instanceMethod yX1_weigh, Cond.selects RX1 yX1_weigh yX1_weigh]
def wsX2_sumOfGreatest_r2 : List Cond := [Cond.code yX1_weigh cX1_weigh 6 none, Cond.fieldLink RX1 38 "PricedPairs$Table" "tasks" "I", Cond.fieldLink RX1 42 "PricedPairs$Table" "workers" "I", Cond.methodLink RX1 45 yX1_leastFrom, Cond.instanceMethod yX1_leastFrom, Cond.selects RX1 yX1_leastFrom yX1_leastFrom, Cond.code yX1_leastFrom cX1_leastFrom 5 (some .int), Cond.fieldLink RX1 49 "PricedPairs$Table" "idleCosts" "[I", Cond.methodLink RX1 56 Lib.Math.min.name, Cond.static Lib.Math.min.name, Cond.initialized "java/lang/Math", Cond.code Lib.Math.min.name Lib.Math.min.code 2 (some .int), Cond.methodLink RX1 52 yX1_totalFrom, Cond.instanceMethod yX1_totalFrom, Cond.selects RX1 yX1_totalFrom yX1_totalFrom, Cond.code yX1_totalFrom cX1_totalFrom 5 (some .int), Cond.fieldLink RX1 61 "PricedPairs$Table" "costs" "[[I", Cond.constant RX1 64 (1000000)]
def wsX2_sumOfGreatest : List Cond := .code yX2_sumOfGreatest cX2_sumOfGreatest 3 (some .int) :: ((wsX2_sumOfGreatest_r1 ++ wsX2_sumOfGreatest_r2) ++ wsX20 ++ wsX40 ++ wsX10)
def wsX2_worthOf : List Cond := .code yX2_worthOf cX2_worthOf 4 (some .int) :: ([.fieldLink RX2 9 "PricedPairs$Prices" "table" "LPricedPairs$Table;", .fieldLink RX2 65 "PricedPairs$Table" "idleCosts" "[I", .fieldLink RX2 23 "PricedPairs$Table" "tasks" "I", .fieldLink RX2 49 "PricedPairs$Table" "costs" "[[I", .fieldLink RX2 19 "PricedPairs$Prices" "least" "[I", .methodLink RX2 68 Lib.Math.min.name, .static Lib.Math.min.name, .initialized "java/lang/Math", .code Lib.Math.min.name Lib.Math.min.code 2 (some .int), .methodLink RX2 45 yX4_isBarred, .instanceMethod yX4_isBarred, .selects RX4 yX4_isBarred yX4_isBarred, .initialized RX4, .code yX4_isBarred cX4_isBarred 3 (some .boolean), .fieldLink RX4 17 "PricedPairs$Table" "costs" "[[I"] ++ wsX20 ++ wsX40)
def wsX2_sumOfWorths : List Cond := .code yX2_sumOfWorths cX2_sumOfWorths 3 (some .int) :: ([.fieldLink RX2 9 "PricedPairs$Prices" "table" "LPricedPairs$Table;", .fieldLink RX2 35 "PricedPairs$Table" "workers" "I", .methodLink RX2 71 yX2_worthOf, .instanceMethod yX2_worthOf, .selects RX2 yX2_worthOf yX2_worthOf, .initialized RX2, .code yX2_worthOf cX2_worthOf 4 (some .int), .fieldLink RX2 65 "PricedPairs$Table" "idleCosts" "[I", .fieldLink RX2 23 "PricedPairs$Table" "tasks" "I", .fieldLink RX2 49 "PricedPairs$Table" "costs" "[[I", .fieldLink RX2 19 "PricedPairs$Prices" "least" "[I", .methodLink RX2 68 Lib.Math.min.name, .static Lib.Math.min.name, .initialized "java/lang/Math", .code Lib.Math.min.name Lib.Math.min.code 2 (some .int), .methodLink RX2 45 yX4_isBarred, .instanceMethod yX4_isBarred, .selects RX4 yX4_isBarred yX4_isBarred, .initialized RX4, .code yX4_isBarred cX4_isBarred 3 (some .boolean), .fieldLink RX4 17 "PricedPairs$Table" "costs" "[[I"] ++ wsX20 ++ wsX40)
def wsX2_tightTasksOf : List Cond := .code yX2_tightTasksOf cX2_tightTasksOf 5 (some .int) :: ([.fieldLink RX2 9 "PricedPairs$Prices" "table" "LPricedPairs$Table;", .fieldLink RX2 23 "PricedPairs$Table" "tasks" "I", .fieldLink RX2 49 "PricedPairs$Table" "costs" "[[I", .fieldLink RX2 19 "PricedPairs$Prices" "least" "[I", .methodLink RX2 71 yX2_worthOf, .instanceMethod yX2_worthOf, .selects RX2 yX2_worthOf yX2_worthOf, .initialized RX2, .code yX2_worthOf cX2_worthOf 4 (some .int), .fieldLink RX2 65 "PricedPairs$Table" "idleCosts" "[I", .methodLink RX2 68 Lib.Math.min.name, .static Lib.Math.min.name, .initialized "java/lang/Math", .code Lib.Math.min.name Lib.Math.min.code 2 (some .int), .methodLink RX2 45 yX4_isBarred, .instanceMethod yX4_isBarred, .selects RX4 yX4_isBarred yX4_isBarred, .initialized RX4, .code yX4_isBarred cX4_isBarred 3 (some .boolean), .fieldLink RX4 17 "PricedPairs$Table" "costs" "[[I"] ++ wsX20 ++ wsX40)
def wsJ6_bitCount_0f7a4 : List Cond := .code yJ6_bitCount_0f7a4 cJ6_bitCount_0f7a4 1 (some .int) :: ([.constant RJ6 265 (1431655765), .constant RJ6 266 (858993459), .constant RJ6 267 (252645135)])
def wsX2_tightPairs_r1 : List Cond := [Cond.fieldLink RX2 9 "PricedPairs$Prices" "table" "LPricedPairs$Table;", Cond.fieldLink RX2 35 "PricedPairs$Table" "workers" "I", Cond.methodLink RX2 74 yX2_tightTasksOf, Cond.instanceMethod yX2_tightTasksOf, Cond.selects RX2 yX2_tightTasksOf yX2_tightTasksOf, Cond.initialized RX2, Cond.code yX2_tightTasksOf cX2_tightTasksOf 5 (some .int), Cond.fieldLink RX2 23 "PricedPairs$Table" "tasks" "I", Cond.fieldLink RX2 49 "PricedPairs$Table" "costs" "[[I", Cond.fieldLink RX2 19 "PricedPairs$Prices" "least" "[I", Cond.methodLink RX2 71 yX2_worthOf, Cond.instanceMethod yX2_worthOf, Cond.selects RX2 yX2_worthOf yX2_worthOf, Cond.code yX2_worthOf cX2_worthOf 4 (some .int), Cond.fieldLink RX2 65 "PricedPairs$Table" "idleCosts" "[I", Cond.methodLink RX2 68 Lib.Math.min.name, Cond.static Lib.Math.min.name, Cond.initialized "java/lang/Math", Cond.code Lib.Math.min.name Lib.Math.min.code 2 (some .int), Cond.methodLink RX2 45 yX4_isBarred, Cond.instanceMethod yX4_isBarred, Cond.selects RX4 yX4_isBarred yX4_isBarred, Cond.initialized RX4, Cond.code yX4_isBarred cX4_isBarred 3 (some .boolean)]
def wsX2_tightPairs_r2 : List Cond := [Cond.fieldLink RX4 17 "PricedPairs$Table" "costs" "[[I", Cond.methodLink RX2 77 yJ6_bitCount_0f7a4, Cond.static yJ6_bitCount_0f7a4, Cond.initialized RJ6, Cond.code yJ6_bitCount_0f7a4 cJ6_bitCount_0f7a4 1 (some .int), Cond.constant RJ6 265 (1431655765), Cond.constant RJ6 266 (858993459), Cond.constant RJ6 267 (252645135)]
def wsX2_tightPairs : List Cond := .code yX2_tightPairs cX2_tightPairs 3 (some .int) :: ((wsX2_tightPairs_r1 ++ wsX2_tightPairs_r2) ++ wsX20 ++ wsX40)
def wsX3_init : List Cond := .code yX3_init cX3_init 2 none :: ([.methodLink RX3 3 objectInit, .instanceMethod objectInit, .code objectInit ⟨#[0xb1]⟩ 1 none, .fieldLink RX3 9 "PricedPairs$Reader" "text" "LPricedPairs$Text;", .classLink RX3 15 RX4, .instantiable RX4 4, .initialized RX4, .fieldLink RX3 18 "PricedPairs$Reader" "found" "LPricedPairs$Table;", .methodLink RX3 17 yX4_init, .instanceMethod yX4_init, .code yX4_init cX4_init 1 none, .methodLink RX4 3 objectInit, .arrayClass .int, .fieldLink RX4 9 "PricedPairs$Table" "idleCosts" "[I", .classLink RX4 15 "[[I", .fieldLink RX4 17 "PricedPairs$Table" "costs" "[[I"] ++ wsX30 ++ wsX40)
def wsX5_isAt : List Cond := .code yX5_isAt cX5_isAt 3 (some .boolean) :: ([.fieldLink RX5 15 "PricedPairs$Text" "length" "I", .fieldLink RX5 9 "PricedPairs$Text" "signs" "[C"] ++ wsX50)
def wsX5_digitAt : List Cond := .code yX5_digitAt cX5_digitAt 2 (some .int) :: ([.fieldLink RX5 15 "PricedPairs$Text" "length" "I", .fieldLink RX5 9 "PricedPairs$Text" "signs" "[C"] ++ wsX50)
def wsX3_readNumber : List Cond := .code yX3_readNumber cX3_readNumber 3 (some .int) :: ([.fieldLink RX3 9 "PricedPairs$Reader" "text" "LPricedPairs$Text;", .fieldLink RX3 22 "PricedPairs$Reader" "place" "I", .fieldLink RX3 26 "PricedPairs$Reader" "reason" "I", .methodLink RX3 71 yX5_digitAt, .instanceMethod yX5_digitAt, .selects RX5 yX5_digitAt yX5_digitAt, .initialized RX5, .code yX5_digitAt cX5_digitAt 2 (some .int), .fieldLink RX5 15 "PricedPairs$Text" "length" "I", .fieldLink RX5 9 "PricedPairs$Text" "signs" "[C"] ++ wsX30 ++ wsX50)
def wsX3_readEntry : List Cond := .code yX3_readEntry cX3_readEntry 1 (some .int) :: ([.fieldLink RX3 9 "PricedPairs$Reader" "text" "LPricedPairs$Text;", .fieldLink RX3 22 "PricedPairs$Reader" "place" "I", .methodLink RX3 67 yX5_isAt, .instanceMethod yX5_isAt, .selects RX5 yX5_isAt yX5_isAt, .initialized RX5, .code yX5_isAt cX5_isAt 3 (some .boolean), .fieldLink RX5 15 "PricedPairs$Text" "length" "I", .fieldLink RX5 9 "PricedPairs$Text" "signs" "[C", .methodLink RX3 56 yX3_readNumber, .instanceMethod yX3_readNumber, .selects RX3 yX3_readNumber yX3_readNumber, .initialized RX3, .code yX3_readNumber cX3_readNumber 3 (some .int), .fieldLink RX3 26 "PricedPairs$Reader" "reason" "I", .methodLink RX3 71 yX5_digitAt, .instanceMethod yX5_digitAt, .selects RX5 yX5_digitAt yX5_digitAt, .code yX5_digitAt cX5_digitAt 2 (some .int)] ++ wsX30 ++ wsX50)
def wsX3_step : List Cond := .code yX3_step cX3_step 3 none :: ([.fieldLink RX3 9 "PricedPairs$Reader" "text" "LPricedPairs$Text;", .fieldLink RX3 22 "PricedPairs$Reader" "place" "I", .fieldLink RX3 26 "PricedPairs$Reader" "reason" "I", .methodLink RX3 67 yX5_isAt, .instanceMethod yX5_isAt, .selects RX5 yX5_isAt yX5_isAt, .initialized RX5, .code yX5_isAt cX5_isAt 3 (some .boolean), .fieldLink RX5 15 "PricedPairs$Text" "length" "I", .fieldLink RX5 9 "PricedPairs$Text" "signs" "[C"] ++ wsX30 ++ wsX50)
def wsX3_readEntries_r1 : List Cond := [Cond.fieldLink RX3 18 "PricedPairs$Reader" "found" "LPricedPairs$Table;", Cond.fieldLink RX3 49 "PricedPairs$Table" "tasks" "I", Cond.fieldLink RX3 60 "PricedPairs$Table" "costs" "[[I", Cond.fieldLink RX3 26 "PricedPairs$Reader" "reason" "I", Cond.fieldLink RX3 9 "PricedPairs$Reader" "text" "LPricedPairs$Text;", Cond.fieldLink RX3 22 "PricedPairs$Reader" "place" "I", Cond.methodLink RX3 64 yX3_readEntry, Cond.instanceMethod yX3_readEntry, Cond.selects RX3 yX3_readEntry yX3_readEntry, Cond.initialized RX3, Cond.code yX3_readEntry cX3_readEntry 1 (some .int), Cond.methodLink RX3 67 yX5_isAt, Cond.instanceMethod yX5_isAt, Cond.selects RX5 yX5_isAt yX5_isAt, Cond.initialized RX5, Cond.code yX5_isAt cX5_isAt 3 (some .boolean), Cond.fieldLink RX5 15 "PricedPairs$Text" "length" "I", Cond.fieldLink RX5 9 "PricedPairs$Text" "signs" "[C", Cond.methodLink RX3 56 yX3_readNumber, Cond.instanceMethod yX3_readNumber, Cond.selects RX3 yX3_readNumber yX3_readNumber, Cond.code yX3_readNumber cX3_readNumber 3 (some .int), Cond.methodLink RX3 71 yX5_digitAt, Cond.instanceMethod yX5_digitAt]
def wsX3_readEntries_r2 : List Cond := [Cond.selects RX5 yX5_digitAt yX5_digitAt, Cond.code yX5_digitAt cX5_digitAt 2 (some .int), Cond.methodLink RX3 41 yX3_step, Cond.instanceMethod yX3_step, Cond.selects RX3 yX3_step yX3_step, Cond.code yX3_step cX3_step 3 none]
def wsX3_readEntries : List Cond := .code yX3_readEntries cX3_readEntries 5 (some .int) :: ((wsX3_readEntries_r1 ++ wsX3_readEntries_r2) ++ wsX30 ++ wsX40 ++ wsX50)
def wsX3_readRow_r1 : List Cond := [Cond.fieldLink RX3 26 "PricedPairs$Reader" "reason" "I", Cond.fieldLink RX3 18 "PricedPairs$Reader" "found" "LPricedPairs$Table;", Cond.fieldLink RX3 49 "PricedPairs$Table" "tasks" "I", Cond.fieldLink RX3 52 "PricedPairs$Table" "idleCosts" "[I", Cond.methodLink RX3 45 yX3_readEntries, Cond.instanceMethod yX3_readEntries, Cond.selects RX3 yX3_readEntries yX3_readEntries, Cond.initialized RX3, Cond.code yX3_readEntries cX3_readEntries 5 (some .int), Cond.fieldLink RX3 60 "PricedPairs$Table" "costs" "[[I", Cond.fieldLink RX3 9 "PricedPairs$Reader" "text" "LPricedPairs$Text;", Cond.fieldLink RX3 22 "PricedPairs$Reader" "place" "I", Cond.methodLink RX3 64 yX3_readEntry, Cond.instanceMethod yX3_readEntry, Cond.selects RX3 yX3_readEntry yX3_readEntry, Cond.code yX3_readEntry cX3_readEntry 1 (some .int), Cond.methodLink RX3 67 yX5_isAt, Cond.instanceMethod yX5_isAt, Cond.selects RX5 yX5_isAt yX5_isAt, Cond.initialized RX5, Cond.code yX5_isAt cX5_isAt 3 (some .boolean), Cond.fieldLink RX5 15 "PricedPairs$Text" "length" "I", Cond.fieldLink RX5 9 "PricedPairs$Text" "signs" "[C", Cond.methodLink RX3 56 yX3_readNumber]
def wsX3_readRow_r2 : List Cond := [Cond.instanceMethod yX3_readNumber, Cond.selects RX3 yX3_readNumber yX3_readNumber, Cond.code yX3_readNumber cX3_readNumber 3 (some .int), Cond.methodLink RX3 71 yX5_digitAt, Cond.instanceMethod yX5_digitAt, Cond.selects RX5 yX5_digitAt yX5_digitAt, Cond.code yX5_digitAt cX5_digitAt 2 (some .int), Cond.methodLink RX3 41 yX3_step, Cond.instanceMethod yX3_step, Cond.selects RX3 yX3_step yX3_step, Cond.code yX3_step cX3_step 3 none]
def wsX3_readRow : List Cond := .code yX3_readRow cX3_readRow 3 none :: ((wsX3_readRow_r1 ++ wsX3_readRow_r2) ++ wsX30 ++ wsX40 ++ wsX50)
def wsX3_readText_r1 : List Cond := [Cond.fieldLink RX3 22 "PricedPairs$Reader" "place" "I", Cond.fieldLink RX3 26 "PricedPairs$Reader" "reason" "I", Cond.fieldLink RX3 18 "PricedPairs$Reader" "found" "LPricedPairs$Table;", Cond.fieldLink RX3 33 "PricedPairs$Table" "workers" "I", Cond.fieldLink RX3 9 "PricedPairs$Reader" "text" "LPricedPairs$Text;", Cond.fieldLink RX3 36 "PricedPairs$Text" "length" "I", Cond.methodLink RX3 29 yX3_readRow, Cond.instanceMethod yX3_readRow, Cond.selects RX3 yX3_readRow yX3_readRow, Cond.initialized RX3, Cond.code yX3_readRow cX3_readRow 3 none, Cond.fieldLink RX3 49 "PricedPairs$Table" "tasks" "I", Cond.fieldLink RX3 52 "PricedPairs$Table" "idleCosts" "[I", Cond.methodLink RX3 45 yX3_readEntries, Cond.instanceMethod yX3_readEntries, Cond.selects RX3 yX3_readEntries yX3_readEntries, Cond.code yX3_readEntries cX3_readEntries 5 (some .int), Cond.fieldLink RX3 60 "PricedPairs$Table" "costs" "[[I", Cond.methodLink RX3 64 yX3_readEntry, Cond.instanceMethod yX3_readEntry, Cond.selects RX3 yX3_readEntry yX3_readEntry, Cond.code yX3_readEntry cX3_readEntry 1 (some .int), Cond.methodLink RX3 67 yX5_isAt, Cond.instanceMethod yX5_isAt]
def wsX3_readText_r2 : List Cond := [Cond.selects RX5 yX5_isAt yX5_isAt, Cond.initialized RX5, Cond.code yX5_isAt cX5_isAt 3 (some .boolean), Cond.fieldLink RX5 15 "PricedPairs$Text" "length" "I", Cond.fieldLink RX5 9 "PricedPairs$Text" "signs" "[C", Cond.methodLink RX3 56 yX3_readNumber, Cond.instanceMethod yX3_readNumber, Cond.selects RX3 yX3_readNumber yX3_readNumber, Cond.code yX3_readNumber cX3_readNumber 3 (some .int), Cond.methodLink RX3 71 yX5_digitAt, Cond.instanceMethod yX5_digitAt, Cond.selects RX5 yX5_digitAt yX5_digitAt, Cond.code yX5_digitAt cX5_digitAt 2 (some .int), Cond.methodLink RX3 41 yX3_step, Cond.instanceMethod yX3_step, Cond.selects RX3 yX3_step yX3_step, Cond.code yX3_step cX3_step 3 none]
def wsX3_readText : List Cond := .code yX3_readText cX3_readText 3 none :: ((wsX3_readText_r1 ++ wsX3_readText_r2) ++ wsX30 ++ wsX40 ++ wsX50)
def wsX4_addWorker : List Cond := .code yX4_addWorker cX4_addWorker 3 none :: ([.fieldLink RX4 9 "PricedPairs$Table" "idleCosts" "[I", .fieldLink RX4 20 "PricedPairs$Table" "workers" "I", .fieldLink RX4 24 "PricedPairs$Table" "tasks" "I", .fieldLink RX4 17 "PricedPairs$Table" "costs" "[[I"] ++ wsX40)
def wsX4_addTask : List Cond := .code yX4_addTask cX4_addTask 2 none :: ([.fieldLink RX4 20 "PricedPairs$Table" "workers" "I", .fieldLink RX4 17 "PricedPairs$Table" "costs" "[[I", .fieldLink RX4 24 "PricedPairs$Table" "tasks" "I"] ++ wsX40)
def wsX4_removeWorker : List Cond := .code yX4_removeWorker cX4_removeWorker 4 none :: ([.fieldLink RX4 20 "PricedPairs$Table" "workers" "I", .fieldLink RX4 9 "PricedPairs$Table" "idleCosts" "[I", .fieldLink RX4 24 "PricedPairs$Table" "tasks" "I", .fieldLink RX4 17 "PricedPairs$Table" "costs" "[[I"] ++ wsX40)
def wsX4_removeTask : List Cond := .code yX4_removeTask cX4_removeTask 4 none :: ([.fieldLink RX4 24 "PricedPairs$Table" "tasks" "I", .fieldLink RX4 20 "PricedPairs$Table" "workers" "I", .fieldLink RX4 17 "PricedPairs$Table" "costs" "[[I"] ++ wsX40)
def wsX4_costWith : List Cond := .code yX4_costWith cX4_costWith 3 (some .int) :: ([.fieldLink RX4 9 "PricedPairs$Table" "idleCosts" "[I", .fieldLink RX4 17 "PricedPairs$Table" "costs" "[[I"] ++ wsX40)
def wsX4_greatestCost : List Cond := .code yX4_greatestCost cX4_greatestCost 4 (some .int) :: ([.fieldLink RX4 9 "PricedPairs$Table" "idleCosts" "[I", .fieldLink RX4 24 "PricedPairs$Table" "tasks" "I", .fieldLink RX4 17 "PricedPairs$Table" "costs" "[[I", .methodLink RX4 27 Lib.Math.max.name, .static Lib.Math.max.name, .initialized "java/lang/Math", .code Lib.Math.max.name Lib.Math.max.code 2 (some .int)] ++ wsX40)
def wsX4_multiplyCosts : List Cond := .code yX4_multiplyCosts cX4_multiplyCosts 4 none :: ([.fieldLink RX4 9 "PricedPairs$Table" "idleCosts" "[I", .fieldLink RX4 24 "PricedPairs$Table" "tasks" "I", .fieldLink RX4 17 "PricedPairs$Table" "costs" "[[I", .methodLink RX4 33 yX4_isBarred, .instanceMethod yX4_isBarred, .selects RX4 yX4_isBarred yX4_isBarred, .initialized RX4, .code yX4_isBarred cX4_isBarred 3 (some .boolean)] ++ wsX40)
def wsX4_openPairs : List Cond := .code yX4_openPairs cX4_openPairs 4 (some .int) :: ([.fieldLink RX4 20 "PricedPairs$Table" "workers" "I", .fieldLink RX4 24 "PricedPairs$Table" "tasks" "I", .methodLink RX4 33 yX4_isBarred, .instanceMethod yX4_isBarred, .selects RX4 yX4_isBarred yX4_isBarred, .initialized RX4, .code yX4_isBarred cX4_isBarred 3 (some .boolean), .fieldLink RX4 17 "PricedPairs$Table" "costs" "[[I"] ++ wsX40)
def wsX5_init : List Cond := .code yX5_init cX5_init 1 none :: ([.methodLink RX5 3 objectInit, .instanceMethod objectInit, .code objectInit ⟨#[0xb1]⟩ 1 none, .arrayClass .char, .fieldLink RX5 9 "PricedPairs$Text" "signs" "[C"] ++ wsX50)
def wsX5_append : List Cond := .code yX5_append cX5_append 2 none :: ([.fieldLink RX5 9 "PricedPairs$Text" "signs" "[C", .fieldLink RX5 15 "PricedPairs$Text" "length" "I"] ++ wsX50)
def wsX6_init_r1 : List Cond := [Cond.methodLink RX6 1 objectInit, Cond.instanceMethod objectInit, Cond.code objectInit ⟨#[0xb1]⟩ 1 none, Cond.classLink RX6 7 RX4, Cond.instantiable RX4 4, Cond.initialized RX4, Cond.fieldLink RX6 10 "PricedPairs" "table" "LPricedPairs$Table;", Cond.classLink RX6 16 RX0, Cond.instantiable RX0 2, Cond.initialized RX0, Cond.fieldLink RX6 19 "PricedPairs" "history" "LPricedPairs$History;", Cond.classLink RX6 23 RX1, Cond.instantiable RX1 4, Cond.initialized RX1, Cond.fieldLink RX6 28 "PricedPairs" "plans" "LPricedPairs$Plans;", Cond.classLink RX6 32 RX2, Cond.instantiable RX2 3, Cond.initialized RX2, Cond.fieldLink RX6 37 "PricedPairs" "prices" "LPricedPairs$Prices;", Cond.classLink RX6 41 RX5, Cond.instantiable RX5 2, Cond.initialized RX5, Cond.fieldLink RX6 44 "PricedPairs" "text" "LPricedPairs$Text;", Cond.classLink RX6 48 RX3]
def wsX6_init_r2 : List Cond := [Cond.instantiable RX3 4, Cond.initialized RX3, Cond.fieldLink RX6 53 "PricedPairs" "reader" "LPricedPairs$Reader;", Cond.methodLink RX6 9 yX4_init, Cond.instanceMethod yX4_init, Cond.code yX4_init cX4_init 1 none, Cond.methodLink RX4 3 objectInit, Cond.arrayClass .int, Cond.fieldLink RX4 9 "PricedPairs$Table" "idleCosts" "[I", Cond.classLink RX4 15 "[[I", Cond.fieldLink RX4 17 "PricedPairs$Table" "costs" "[[I", Cond.methodLink RX6 18 yX0_init, Cond.instanceMethod yX0_init, Cond.code yX0_init cX0_init 2 none, Cond.methodLink RX0 3 objectInit, Cond.classLink RX0 9 RX4, Cond.fieldLink RX0 11 "PricedPairs$History" "states" "[LPricedPairs$Table;", Cond.methodLink RX0 17 yX4_init, Cond.methodLink RX6 25 yX1_init, Cond.instanceMethod yX1_init, Cond.code yX1_init cX1_init 2 none, Cond.methodLink RX1 3 objectInit, Cond.fieldLink RX1 9 "PricedPairs$Plans" "table" "LPricedPairs$Table;", Cond.fieldLink RX1 15 "PricedPairs$Plans" "chosen" "[I"]
def wsX6_init_r3 : List Cond := [Cond.classLink RX1 19 "[[I", Cond.fieldLink RX1 21 "PricedPairs$Plans" "least" "[[I", Cond.methodLink RX6 34 yX2_init, Cond.instanceMethod yX2_init, Cond.code yX2_init cX2_init 3 none, Cond.methodLink RX2 3 objectInit, Cond.fieldLink RX2 9 "PricedPairs$Prices" "table" "LPricedPairs$Table;", Cond.fieldLink RX2 15 "PricedPairs$Prices" "plans" "LPricedPairs$Plans;", Cond.fieldLink RX2 19 "PricedPairs$Prices" "least" "[I", Cond.methodLink RX6 43 yX5_init, Cond.instanceMethod yX5_init, Cond.code yX5_init cX5_init 1 none, Cond.methodLink RX5 3 objectInit, Cond.arrayClass .char, Cond.fieldLink RX5 9 "PricedPairs$Text" "signs" "[C", Cond.methodLink RX6 50 yX3_init, Cond.instanceMethod yX3_init, Cond.code yX3_init cX3_init 2 none, Cond.methodLink RX3 3 objectInit, Cond.fieldLink RX3 9 "PricedPairs$Reader" "text" "LPricedPairs$Text;", Cond.classLink RX3 15 RX4, Cond.fieldLink RX3 18 "PricedPairs$Reader" "found" "LPricedPairs$Table;", Cond.methodLink RX3 17 yX4_init]
def wsX6_init : List Cond := .code yX6_init cX6_init 1 none :: ((wsX6_init_r1 ++ (wsX6_init_r2 ++ wsX6_init_r3)) ++ wsX40 ++ wsX60 ++ wsX00 ++ wsX10 ++ wsX20 ++ wsX50 ++ wsX30)
def wsX6_isCost : List Cond := .code yX6_isCost cX6_isCost 1 (some .boolean) :: ([])
def wsX6_worker_r1 : List Cond := [Cond.fieldLink RX6 10 "PricedPairs" "table" "LPricedPairs$Table;", Cond.fieldLink RX6 61 "PricedPairs$Table" "workers" "I", Cond.fieldLink RX6 19 "PricedPairs" "history" "LPricedPairs$History;", Cond.methodLink RX6 57 yX6_isCost, Cond.static yX6_isCost, Cond.initialized RX6, Cond.code yX6_isCost cX6_isCost 1 (some .boolean), Cond.methodLink RX6 65 yX0_keep, Cond.instanceMethod yX0_keep, Cond.selects RX0 yX0_keep yX0_keep, Cond.initialized RX0, Cond.code yX0_keep cX0_keep 2 none, Cond.fieldLink RX0 18 "PricedPairs$History" "size" "I", Cond.fieldLink RX0 11 "PricedPairs$History" "states" "[LPricedPairs$Table;", Cond.methodLink RX0 22 yX0_dropOldest, Cond.instanceMethod yX0_dropOldest, Cond.selects RX0 yX0_dropOldest yX0_dropOldest, Cond.code yX0_dropOldest cX0_dropOldest 3 none, Cond.methodLink RX0 25 yX4_copyFrom, Cond.instanceMethod yX4_copyFrom, Cond.selects RX4 yX4_copyFrom yX4_copyFrom, Cond.initialized RX4, Cond.code yX4_copyFrom cX4_copyFrom 4 none, Cond.fieldLink RX4 20 "PricedPairs$Table" "workers" "I"]
def wsX6_worker_r2 : List Cond := [Cond.fieldLink RX4 24 "PricedPairs$Table" "tasks" "I", Cond.fieldLink RX4 9 "PricedPairs$Table" "idleCosts" "[I", Cond.fieldLink RX4 17 "PricedPairs$Table" "costs" "[[I", Cond.methodLink RX6 68 yX4_addWorker, Cond.instanceMethod yX4_addWorker, Cond.selects RX4 yX4_addWorker yX4_addWorker, Cond.code yX4_addWorker cX4_addWorker 3 none]
def wsX6_worker : List Cond := .code yX6_worker cX6_worker 2 (some .int) :: ((wsX6_worker_r1 ++ wsX6_worker_r2) ++ wsX60 ++ wsX40 ++ wsX00)
def wsX6_task_r1 : List Cond := [Cond.fieldLink RX6 10 "PricedPairs" "table" "LPricedPairs$Table;", Cond.fieldLink RX6 72 "PricedPairs$Table" "tasks" "I", Cond.fieldLink RX6 19 "PricedPairs" "history" "LPricedPairs$History;", Cond.methodLink RX6 65 yX0_keep, Cond.instanceMethod yX0_keep, Cond.selects RX0 yX0_keep yX0_keep, Cond.initialized RX0, Cond.code yX0_keep cX0_keep 2 none, Cond.fieldLink RX0 18 "PricedPairs$History" "size" "I", Cond.fieldLink RX0 11 "PricedPairs$History" "states" "[LPricedPairs$Table;", Cond.methodLink RX0 22 yX0_dropOldest, Cond.instanceMethod yX0_dropOldest, Cond.selects RX0 yX0_dropOldest yX0_dropOldest, Cond.code yX0_dropOldest cX0_dropOldest 3 none, Cond.methodLink RX0 25 yX4_copyFrom, Cond.instanceMethod yX4_copyFrom, Cond.selects RX4 yX4_copyFrom yX4_copyFrom, Cond.initialized RX4, Cond.code yX4_copyFrom cX4_copyFrom 4 none, Cond.fieldLink RX4 20 "PricedPairs$Table" "workers" "I", Cond.fieldLink RX4 24 "PricedPairs$Table" "tasks" "I", Cond.fieldLink RX4 9 "PricedPairs$Table" "idleCosts" "[I", Cond.fieldLink RX4 17 "PricedPairs$Table" "costs" "[[I", Cond.methodLink RX6 75 yX4_addTask]
def wsX6_task_r2 : List Cond := [Cond.instanceMethod yX4_addTask, Cond.selects RX4 yX4_addTask yX4_addTask, Cond.code yX4_addTask cX4_addTask 2 none]
def wsX6_task : List Cond := .code yX6_task cX6_task 1 (some .int) :: ((wsX6_task_r1 ++ wsX6_task_r2) ++ wsX60 ++ wsX40 ++ wsX00)
def wsX6_isWorker : List Cond := .code yX6_isWorker cX6_isWorker 2 (some .boolean) :: ([.fieldLink RX6 10 "PricedPairs" "table" "LPricedPairs$Table;", .fieldLink RX6 61 "PricedPairs$Table" "workers" "I"] ++ wsX60 ++ wsX40)
def wsX6_dropWorker_r1 : List Cond := [Cond.fieldLink RX6 19 "PricedPairs" "history" "LPricedPairs$History;", Cond.fieldLink RX6 10 "PricedPairs" "table" "LPricedPairs$Table;", Cond.fieldLink RX6 61 "PricedPairs$Table" "workers" "I", Cond.methodLink RX6 78 yX6_isWorker, Cond.instanceMethod yX6_isWorker, Cond.selects RX6 yX6_isWorker yX6_isWorker, Cond.initialized RX6, Cond.code yX6_isWorker cX6_isWorker 2 (some .boolean), Cond.methodLink RX6 65 yX0_keep, Cond.instanceMethod yX0_keep, Cond.selects RX0 yX0_keep yX0_keep, Cond.initialized RX0, Cond.code yX0_keep cX0_keep 2 none, Cond.fieldLink RX0 18 "PricedPairs$History" "size" "I", Cond.fieldLink RX0 11 "PricedPairs$History" "states" "[LPricedPairs$Table;", Cond.methodLink RX0 22 yX0_dropOldest, Cond.instanceMethod yX0_dropOldest, Cond.selects RX0 yX0_dropOldest yX0_dropOldest, Cond.code yX0_dropOldest cX0_dropOldest 3 none, Cond.methodLink RX0 25 yX4_copyFrom, Cond.instanceMethod yX4_copyFrom, Cond.selects RX4 yX4_copyFrom yX4_copyFrom, Cond.initialized RX4, Cond.code yX4_copyFrom cX4_copyFrom 4 none]
def wsX6_dropWorker_r2 : List Cond := [Cond.fieldLink RX4 20 "PricedPairs$Table" "workers" "I", Cond.fieldLink RX4 24 "PricedPairs$Table" "tasks" "I", Cond.fieldLink RX4 9 "PricedPairs$Table" "idleCosts" "[I", Cond.fieldLink RX4 17 "PricedPairs$Table" "costs" "[[I", Cond.methodLink RX6 81 yX4_removeWorker, Cond.instanceMethod yX4_removeWorker, Cond.selects RX4 yX4_removeWorker yX4_removeWorker, Cond.code yX4_removeWorker cX4_removeWorker 4 none]
def wsX6_dropWorker : List Cond := .code yX6_dropWorker cX6_dropWorker 2 (some .int) :: ((wsX6_dropWorker_r1 ++ wsX6_dropWorker_r2) ++ wsX60 ++ wsX40 ++ wsX00)
def wsX6_isTask : List Cond := .code yX6_isTask cX6_isTask 2 (some .boolean) :: ([.fieldLink RX6 10 "PricedPairs" "table" "LPricedPairs$Table;", .fieldLink RX6 72 "PricedPairs$Table" "tasks" "I"] ++ wsX60 ++ wsX40)
def wsX6_dropTask_r1 : List Cond := [Cond.fieldLink RX6 19 "PricedPairs" "history" "LPricedPairs$History;", Cond.fieldLink RX6 10 "PricedPairs" "table" "LPricedPairs$Table;", Cond.fieldLink RX6 72 "PricedPairs$Table" "tasks" "I", Cond.methodLink RX6 84 yX6_isTask, Cond.instanceMethod yX6_isTask, Cond.selects RX6 yX6_isTask yX6_isTask, Cond.initialized RX6, Cond.code yX6_isTask cX6_isTask 2 (some .boolean), Cond.methodLink RX6 65 yX0_keep, Cond.instanceMethod yX0_keep, Cond.selects RX0 yX0_keep yX0_keep, Cond.initialized RX0, Cond.code yX0_keep cX0_keep 2 none, Cond.fieldLink RX0 18 "PricedPairs$History" "size" "I", Cond.fieldLink RX0 11 "PricedPairs$History" "states" "[LPricedPairs$Table;", Cond.methodLink RX0 22 yX0_dropOldest, Cond.instanceMethod yX0_dropOldest, Cond.selects RX0 yX0_dropOldest yX0_dropOldest, Cond.code yX0_dropOldest cX0_dropOldest 3 none, Cond.methodLink RX0 25 yX4_copyFrom, Cond.instanceMethod yX4_copyFrom, Cond.selects RX4 yX4_copyFrom yX4_copyFrom, Cond.initialized RX4, Cond.code yX4_copyFrom cX4_copyFrom 4 none]
def wsX6_dropTask_r2 : List Cond := [Cond.fieldLink RX4 20 "PricedPairs$Table" "workers" "I", Cond.fieldLink RX4 24 "PricedPairs$Table" "tasks" "I", Cond.fieldLink RX4 9 "PricedPairs$Table" "idleCosts" "[I", Cond.fieldLink RX4 17 "PricedPairs$Table" "costs" "[[I", Cond.methodLink RX6 87 yX4_removeTask, Cond.instanceMethod yX4_removeTask, Cond.selects RX4 yX4_removeTask yX4_removeTask, Cond.code yX4_removeTask cX4_removeTask 4 none]
def wsX6_dropTask : List Cond := .code yX6_dropTask cX6_dropTask 2 (some .int) :: ((wsX6_dropTask_r1 ++ wsX6_dropTask_r2) ++ wsX60 ++ wsX40 ++ wsX00)
def wsX6_changePair_r1 : List Cond := [Cond.fieldLink RX6 28 "PricedPairs" "plans" "LPricedPairs$Plans;", Cond.fieldLink RX6 19 "PricedPairs" "history" "LPricedPairs$History;", Cond.fieldLink RX6 10 "PricedPairs" "table" "LPricedPairs$Table;", Cond.fieldLink RX6 213 "PricedPairs$Table" "costs" "[[I", Cond.methodLink RX6 121 yX1_leastTotal, Cond.instanceMethod yX1_leastTotal, Cond.selects RX1 yX1_leastTotal yX1_leastTotal, Cond.initialized RX1, Cond.code yX1_leastTotal cX1_leastTotal 1 (some .int), Cond.fieldLink RX1 9 "PricedPairs$Plans" "table" "LPricedPairs$Table;", Cond.methodLink RX1 24 yX4_allWorkers, Cond.instanceMethod yX4_allWorkers, Cond.selects RX4 yX4_allWorkers yX4_allWorkers, Cond.initialized RX4, Cond.code yX4_allWorkers cX4_allWorkers 1 (some .int), Cond.fieldLink RX4 20 "PricedPairs$Table" "workers" "I", Cond.methodLink RX1 30 yX1_leastTotalOf, Cond.instanceMethod yX1_leastTotalOf, Cond.selects RX1 yX1_leastTotalOf yX1_leastTotalOf, Cond.code yX1_leastTotalOf cX1_leastTotalOf 2 (some .int), Cond.fieldLink RX1 21 "PricedPairs$Plans" "least" "[[I", Cond.methodLink RX1 34 yX1_weigh, Cond.instanceMethod yX1_weigh, Cond.selects RX1 yX1_weigh yX1_weigh]
def wsX6_changePair_r2 : List Cond := [Cond.code yX1_weigh cX1_weigh 6 none, Cond.fieldLink RX1 38 "PricedPairs$Table" "tasks" "I", Cond.fieldLink RX1 42 "PricedPairs$Table" "workers" "I", Cond.methodLink RX1 45 yX1_leastFrom, Cond.instanceMethod yX1_leastFrom, Cond.selects RX1 yX1_leastFrom yX1_leastFrom, Cond.code yX1_leastFrom cX1_leastFrom 5 (some .int), Cond.fieldLink RX1 49 "PricedPairs$Table" "idleCosts" "[I", Cond.methodLink RX1 56 Lib.Math.min.name, Cond.static Lib.Math.min.name, Cond.initialized "java/lang/Math", Cond.code Lib.Math.min.name Lib.Math.min.code 2 (some .int), Cond.methodLink RX1 52 yX1_totalFrom, Cond.instanceMethod yX1_totalFrom, Cond.selects RX1 yX1_totalFrom yX1_totalFrom, Cond.code yX1_totalFrom cX1_totalFrom 5 (some .int), Cond.fieldLink RX1 61 "PricedPairs$Table" "costs" "[[I", Cond.constant RX1 64 (1000000), Cond.methodLink RX6 65 yX0_keep, Cond.instanceMethod yX0_keep, Cond.selects RX0 yX0_keep yX0_keep, Cond.initialized RX0, Cond.code yX0_keep cX0_keep 2 none, Cond.fieldLink RX0 18 "PricedPairs$History" "size" "I"]
def wsX6_changePair_r3 : List Cond := [Cond.fieldLink RX0 11 "PricedPairs$History" "states" "[LPricedPairs$Table;", Cond.methodLink RX0 22 yX0_dropOldest, Cond.instanceMethod yX0_dropOldest, Cond.selects RX0 yX0_dropOldest yX0_dropOldest, Cond.code yX0_dropOldest cX0_dropOldest 3 none, Cond.methodLink RX0 25 yX4_copyFrom, Cond.instanceMethod yX4_copyFrom, Cond.selects RX4 yX4_copyFrom yX4_copyFrom, Cond.code yX4_copyFrom cX4_copyFrom 4 none, Cond.fieldLink RX4 24 "PricedPairs$Table" "tasks" "I", Cond.fieldLink RX4 9 "PricedPairs$Table" "idleCosts" "[I", Cond.fieldLink RX4 17 "PricedPairs$Table" "costs" "[[I"]
def wsX6_changePair : List Cond := .code yX6_changePair cX6_changePair 5 (some .int) :: ((wsX6_changePair_r1 ++ (wsX6_changePair_r2 ++ wsX6_changePair_r3)) ++ wsX60 ++ wsX40 ++ wsX10 ++ wsX00)
def wsX6_cost_r1 : List Cond := [Cond.constant RX6 90 (100000), Cond.methodLink RX6 78 yX6_isWorker, Cond.instanceMethod yX6_isWorker, Cond.selects RX6 yX6_isWorker yX6_isWorker, Cond.initialized RX6, Cond.code yX6_isWorker cX6_isWorker 2 (some .boolean), Cond.fieldLink RX6 10 "PricedPairs" "table" "LPricedPairs$Table;", Cond.fieldLink RX6 61 "PricedPairs$Table" "workers" "I", Cond.methodLink RX6 84 yX6_isTask, Cond.instanceMethod yX6_isTask, Cond.selects RX6 yX6_isTask yX6_isTask, Cond.code yX6_isTask cX6_isTask 2 (some .boolean), Cond.fieldLink RX6 72 "PricedPairs$Table" "tasks" "I", Cond.methodLink RX6 57 yX6_isCost, Cond.static yX6_isCost, Cond.code yX6_isCost cX6_isCost 1 (some .boolean), Cond.methodLink RX6 91 yX6_changePair, Cond.instanceMethod yX6_changePair, Cond.selects RX6 yX6_changePair yX6_changePair, Cond.code yX6_changePair cX6_changePair 5 (some .int), Cond.fieldLink RX6 28 "PricedPairs" "plans" "LPricedPairs$Plans;", Cond.fieldLink RX6 19 "PricedPairs" "history" "LPricedPairs$History;", Cond.fieldLink RX6 213 "PricedPairs$Table" "costs" "[[I", Cond.methodLink RX6 121 yX1_leastTotal]
def wsX6_cost_r2 : List Cond := [Cond.instanceMethod yX1_leastTotal, Cond.selects RX1 yX1_leastTotal yX1_leastTotal, Cond.initialized RX1, Cond.code yX1_leastTotal cX1_leastTotal 1 (some .int), Cond.fieldLink RX1 9 "PricedPairs$Plans" "table" "LPricedPairs$Table;", Cond.methodLink RX1 24 yX4_allWorkers, Cond.instanceMethod yX4_allWorkers, Cond.selects RX4 yX4_allWorkers yX4_allWorkers, Cond.initialized RX4, Cond.code yX4_allWorkers cX4_allWorkers 1 (some .int), Cond.fieldLink RX4 20 "PricedPairs$Table" "workers" "I", Cond.methodLink RX1 30 yX1_leastTotalOf, Cond.instanceMethod yX1_leastTotalOf, Cond.selects RX1 yX1_leastTotalOf yX1_leastTotalOf, Cond.code yX1_leastTotalOf cX1_leastTotalOf 2 (some .int), Cond.fieldLink RX1 21 "PricedPairs$Plans" "least" "[[I", Cond.methodLink RX1 34 yX1_weigh, Cond.instanceMethod yX1_weigh, Cond.selects RX1 yX1_weigh yX1_weigh, Cond.code yX1_weigh cX1_weigh 6 none, Cond.fieldLink RX1 38 "PricedPairs$Table" "tasks" "I", Cond.fieldLink RX1 42 "PricedPairs$Table" "workers" "I", Cond.methodLink RX1 45 yX1_leastFrom, Cond.instanceMethod yX1_leastFrom]
def wsX6_cost_r3 : List Cond := [Cond.selects RX1 yX1_leastFrom yX1_leastFrom, Cond.code yX1_leastFrom cX1_leastFrom 5 (some .int), Cond.fieldLink RX1 49 "PricedPairs$Table" "idleCosts" "[I", Cond.methodLink RX1 56 Lib.Math.min.name, Cond.static Lib.Math.min.name, Cond.initialized "java/lang/Math", Cond.code Lib.Math.min.name Lib.Math.min.code 2 (some .int), Cond.methodLink RX1 52 yX1_totalFrom, Cond.instanceMethod yX1_totalFrom, Cond.selects RX1 yX1_totalFrom yX1_totalFrom, Cond.code yX1_totalFrom cX1_totalFrom 5 (some .int), Cond.fieldLink RX1 61 "PricedPairs$Table" "costs" "[[I", Cond.constant RX1 64 (1000000), Cond.methodLink RX6 65 yX0_keep, Cond.instanceMethod yX0_keep, Cond.selects RX0 yX0_keep yX0_keep, Cond.initialized RX0, Cond.code yX0_keep cX0_keep 2 none, Cond.fieldLink RX0 18 "PricedPairs$History" "size" "I", Cond.fieldLink RX0 11 "PricedPairs$History" "states" "[LPricedPairs$Table;", Cond.methodLink RX0 22 yX0_dropOldest, Cond.instanceMethod yX0_dropOldest, Cond.selects RX0 yX0_dropOldest yX0_dropOldest, Cond.code yX0_dropOldest cX0_dropOldest 3 none]
def wsX6_cost_r4 : List Cond := [Cond.methodLink RX0 25 yX4_copyFrom, Cond.instanceMethod yX4_copyFrom, Cond.selects RX4 yX4_copyFrom yX4_copyFrom, Cond.code yX4_copyFrom cX4_copyFrom 4 none, Cond.fieldLink RX4 24 "PricedPairs$Table" "tasks" "I", Cond.fieldLink RX4 9 "PricedPairs$Table" "idleCosts" "[I", Cond.fieldLink RX4 17 "PricedPairs$Table" "costs" "[[I"]
def wsX6_cost : List Cond := .code yX6_cost cX6_cost 4 (some .int) :: ((wsX6_cost_r1 ++ (wsX6_cost_r2 ++ (wsX6_cost_r3 ++ wsX6_cost_r4))) ++ wsX60 ++ wsX40 ++ wsX10 ++ wsX00)
def wsX6_bar_r1 : List Cond := [Cond.fieldLink RX6 10 "PricedPairs" "table" "LPricedPairs$Table;", Cond.methodLink RX6 78 yX6_isWorker, Cond.instanceMethod yX6_isWorker, Cond.selects RX6 yX6_isWorker yX6_isWorker, Cond.initialized RX6, Cond.code yX6_isWorker cX6_isWorker 2 (some .boolean), Cond.fieldLink RX6 61 "PricedPairs$Table" "workers" "I", Cond.methodLink RX6 84 yX6_isTask, Cond.instanceMethod yX6_isTask, Cond.selects RX6 yX6_isTask yX6_isTask, Cond.code yX6_isTask cX6_isTask 2 (some .boolean), Cond.fieldLink RX6 72 "PricedPairs$Table" "tasks" "I", Cond.methodLink RX6 95 yX4_isBarred, Cond.instanceMethod yX4_isBarred, Cond.selects RX4 yX4_isBarred yX4_isBarred, Cond.initialized RX4, Cond.code yX4_isBarred cX4_isBarred 3 (some .boolean), Cond.fieldLink RX4 17 "PricedPairs$Table" "costs" "[[I", Cond.methodLink RX6 91 yX6_changePair, Cond.instanceMethod yX6_changePair, Cond.selects RX6 yX6_changePair yX6_changePair, Cond.code yX6_changePair cX6_changePair 5 (some .int), Cond.fieldLink RX6 28 "PricedPairs" "plans" "LPricedPairs$Plans;", Cond.fieldLink RX6 19 "PricedPairs" "history" "LPricedPairs$History;"]
def wsX6_bar_r2 : List Cond := [Cond.fieldLink RX6 213 "PricedPairs$Table" "costs" "[[I", Cond.methodLink RX6 121 yX1_leastTotal, Cond.instanceMethod yX1_leastTotal, Cond.selects RX1 yX1_leastTotal yX1_leastTotal, Cond.initialized RX1, Cond.code yX1_leastTotal cX1_leastTotal 1 (some .int), Cond.fieldLink RX1 9 "PricedPairs$Plans" "table" "LPricedPairs$Table;", Cond.methodLink RX1 24 yX4_allWorkers, Cond.instanceMethod yX4_allWorkers, Cond.selects RX4 yX4_allWorkers yX4_allWorkers, Cond.code yX4_allWorkers cX4_allWorkers 1 (some .int), Cond.fieldLink RX4 20 "PricedPairs$Table" "workers" "I", Cond.methodLink RX1 30 yX1_leastTotalOf, Cond.instanceMethod yX1_leastTotalOf, Cond.selects RX1 yX1_leastTotalOf yX1_leastTotalOf, Cond.code yX1_leastTotalOf cX1_leastTotalOf 2 (some .int), Cond.fieldLink RX1 21 "PricedPairs$Plans" "least" "[[I", Cond.methodLink RX1 34 yX1_weigh, Cond.instanceMethod yX1_weigh, Cond.selects RX1 yX1_weigh yX1_weigh, Cond.code yX1_weigh cX1_weigh 6 none, Cond.fieldLink RX1 38 "PricedPairs$Table" "tasks" "I", Cond.fieldLink RX1 42 "PricedPairs$Table" "workers" "I", Cond.methodLink RX1 45 yX1_leastFrom]
def wsX6_bar_r3 : List Cond := [Cond.instanceMethod yX1_leastFrom, Cond.selects RX1 yX1_leastFrom yX1_leastFrom, Cond.code yX1_leastFrom cX1_leastFrom 5 (some .int), Cond.fieldLink RX1 49 "PricedPairs$Table" "idleCosts" "[I", Cond.methodLink RX1 56 Lib.Math.min.name, Cond.static Lib.Math.min.name, Cond.initialized "java/lang/Math", Cond.code Lib.Math.min.name Lib.Math.min.code 2 (some .int), Cond.methodLink RX1 52 yX1_totalFrom, Cond.instanceMethod yX1_totalFrom, Cond.selects RX1 yX1_totalFrom yX1_totalFrom, Cond.code yX1_totalFrom cX1_totalFrom 5 (some .int), Cond.fieldLink RX1 61 "PricedPairs$Table" "costs" "[[I", Cond.constant RX1 64 (1000000), Cond.methodLink RX6 65 yX0_keep, Cond.instanceMethod yX0_keep, Cond.selects RX0 yX0_keep yX0_keep, Cond.initialized RX0, Cond.code yX0_keep cX0_keep 2 none, Cond.fieldLink RX0 18 "PricedPairs$History" "size" "I", Cond.fieldLink RX0 11 "PricedPairs$History" "states" "[LPricedPairs$Table;", Cond.methodLink RX0 22 yX0_dropOldest, Cond.instanceMethod yX0_dropOldest, Cond.selects RX0 yX0_dropOldest yX0_dropOldest]
def wsX6_bar_r4 : List Cond := [Cond.code yX0_dropOldest cX0_dropOldest 3 none, Cond.methodLink RX0 25 yX4_copyFrom, Cond.instanceMethod yX4_copyFrom, Cond.selects RX4 yX4_copyFrom yX4_copyFrom, Cond.code yX4_copyFrom cX4_copyFrom 4 none, Cond.fieldLink RX4 24 "PricedPairs$Table" "tasks" "I", Cond.fieldLink RX4 9 "PricedPairs$Table" "idleCosts" "[I"]
def wsX6_bar : List Cond := .code yX6_bar cX6_bar 3 (some .int) :: ((wsX6_bar_r1 ++ (wsX6_bar_r2 ++ (wsX6_bar_r3 ++ wsX6_bar_r4))) ++ wsX60 ++ wsX40 ++ wsX10 ++ wsX00)
def wsX6_idle_r1 : List Cond := [Cond.fieldLink RX6 19 "PricedPairs" "history" "LPricedPairs$History;", Cond.fieldLink RX6 10 "PricedPairs" "table" "LPricedPairs$Table;", Cond.fieldLink RX6 99 "PricedPairs$Table" "idleCosts" "[I", Cond.methodLink RX6 78 yX6_isWorker, Cond.instanceMethod yX6_isWorker, Cond.selects RX6 yX6_isWorker yX6_isWorker, Cond.initialized RX6, Cond.code yX6_isWorker cX6_isWorker 2 (some .boolean), Cond.fieldLink RX6 61 "PricedPairs$Table" "workers" "I", Cond.methodLink RX6 57 yX6_isCost, Cond.static yX6_isCost, Cond.code yX6_isCost cX6_isCost 1 (some .boolean), Cond.methodLink RX6 65 yX0_keep, Cond.instanceMethod yX0_keep, Cond.selects RX0 yX0_keep yX0_keep, Cond.initialized RX0, Cond.code yX0_keep cX0_keep 2 none, Cond.fieldLink RX0 18 "PricedPairs$History" "size" "I", Cond.fieldLink RX0 11 "PricedPairs$History" "states" "[LPricedPairs$Table;", Cond.methodLink RX0 22 yX0_dropOldest, Cond.instanceMethod yX0_dropOldest, Cond.selects RX0 yX0_dropOldest yX0_dropOldest, Cond.code yX0_dropOldest cX0_dropOldest 3 none, Cond.methodLink RX0 25 yX4_copyFrom]
def wsX6_idle_r2 : List Cond := [Cond.instanceMethod yX4_copyFrom, Cond.selects RX4 yX4_copyFrom yX4_copyFrom, Cond.initialized RX4, Cond.code yX4_copyFrom cX4_copyFrom 4 none, Cond.fieldLink RX4 20 "PricedPairs$Table" "workers" "I", Cond.fieldLink RX4 24 "PricedPairs$Table" "tasks" "I", Cond.fieldLink RX4 9 "PricedPairs$Table" "idleCosts" "[I", Cond.fieldLink RX4 17 "PricedPairs$Table" "costs" "[[I"]
def wsX6_idle : List Cond := .code yX6_idle cX6_idle 4 (some .int) :: ((wsX6_idle_r1 ++ wsX6_idle_r2) ++ wsX60 ++ wsX40 ++ wsX00)
def wsX6_times_r1 : List Cond := [Cond.constant RX6 103 (2000000000), Cond.fieldLink RX6 10 "PricedPairs" "table" "LPricedPairs$Table;", Cond.constantLong RX6 108 (9999), Cond.fieldLink RX6 19 "PricedPairs" "history" "LPricedPairs$History;", Cond.methodLink RX6 78 yX6_isWorker, Cond.instanceMethod yX6_isWorker, Cond.selects RX6 yX6_isWorker yX6_isWorker, Cond.initialized RX6, Cond.code yX6_isWorker cX6_isWorker 2 (some .boolean), Cond.fieldLink RX6 61 "PricedPairs$Table" "workers" "I", Cond.methodLink RX6 104 yX4_greatestCost, Cond.instanceMethod yX4_greatestCost, Cond.selects RX4 yX4_greatestCost yX4_greatestCost, Cond.initialized RX4, Cond.code yX4_greatestCost cX4_greatestCost 4 (some .int), Cond.fieldLink RX4 9 "PricedPairs$Table" "idleCosts" "[I", Cond.fieldLink RX4 24 "PricedPairs$Table" "tasks" "I", Cond.fieldLink RX4 17 "PricedPairs$Table" "costs" "[[I", Cond.methodLink RX4 27 Lib.Math.max.name, Cond.static Lib.Math.max.name, Cond.initialized "java/lang/Math", Cond.code Lib.Math.max.name Lib.Math.max.code 2 (some .int), Cond.methodLink RX6 65 yX0_keep, Cond.instanceMethod yX0_keep]
def wsX6_times_r2 : List Cond := [Cond.selects RX0 yX0_keep yX0_keep, Cond.initialized RX0, Cond.code yX0_keep cX0_keep 2 none, Cond.fieldLink RX0 18 "PricedPairs$History" "size" "I", Cond.fieldLink RX0 11 "PricedPairs$History" "states" "[LPricedPairs$Table;", Cond.methodLink RX0 22 yX0_dropOldest, Cond.instanceMethod yX0_dropOldest, Cond.selects RX0 yX0_dropOldest yX0_dropOldest, Cond.code yX0_dropOldest cX0_dropOldest 3 none, Cond.methodLink RX0 25 yX4_copyFrom, Cond.instanceMethod yX4_copyFrom, Cond.selects RX4 yX4_copyFrom yX4_copyFrom, Cond.code yX4_copyFrom cX4_copyFrom 4 none, Cond.fieldLink RX4 20 "PricedPairs$Table" "workers" "I", Cond.methodLink RX6 110 yX4_multiplyCosts, Cond.instanceMethod yX4_multiplyCosts, Cond.selects RX4 yX4_multiplyCosts yX4_multiplyCosts, Cond.code yX4_multiplyCosts cX4_multiplyCosts 4 none, Cond.methodLink RX4 33 yX4_isBarred, Cond.instanceMethod yX4_isBarred, Cond.selects RX4 yX4_isBarred yX4_isBarred, Cond.code yX4_isBarred cX4_isBarred 3 (some .boolean)]
def wsX6_times : List Cond := .code yX6_times cX6_times 5 (some .int) :: ((wsX6_times_r1 ++ wsX6_times_r2) ++ wsX60 ++ wsX40 ++ wsX00)
def wsX6_isTaskOrNone : List Cond := .code yX6_isTaskOrNone cX6_isTaskOrNone 2 (some .boolean) :: ([.methodLink RX6 84 yX6_isTask, .instanceMethod yX6_isTask, .selects RX6 yX6_isTask yX6_isTask, .initialized RX6, .code yX6_isTask cX6_isTask 2 (some .boolean), .fieldLink RX6 10 "PricedPairs" "table" "LPricedPairs$Table;", .fieldLink RX6 72 "PricedPairs$Table" "tasks" "I"] ++ wsX60 ++ wsX40)
def wsX6_costOf_r1 : List Cond := [Cond.fieldLink RX6 10 "PricedPairs" "table" "LPricedPairs$Table;", Cond.methodLink RX6 78 yX6_isWorker, Cond.instanceMethod yX6_isWorker, Cond.selects RX6 yX6_isWorker yX6_isWorker, Cond.initialized RX6, Cond.code yX6_isWorker cX6_isWorker 2 (some .boolean), Cond.fieldLink RX6 61 "PricedPairs$Table" "workers" "I", Cond.methodLink RX6 114 yX6_isTaskOrNone, Cond.instanceMethod yX6_isTaskOrNone, Cond.selects RX6 yX6_isTaskOrNone yX6_isTaskOrNone, Cond.code yX6_isTaskOrNone cX6_isTaskOrNone 2 (some .boolean), Cond.methodLink RX6 84 yX6_isTask, Cond.instanceMethod yX6_isTask, Cond.selects RX6 yX6_isTask yX6_isTask, Cond.code yX6_isTask cX6_isTask 2 (some .boolean), Cond.fieldLink RX6 72 "PricedPairs$Table" "tasks" "I", Cond.methodLink RX6 95 yX4_isBarred, Cond.instanceMethod yX4_isBarred, Cond.selects RX4 yX4_isBarred yX4_isBarred, Cond.initialized RX4, Cond.code yX4_isBarred cX4_isBarred 3 (some .boolean), Cond.fieldLink RX4 17 "PricedPairs$Table" "costs" "[[I", Cond.methodLink RX6 117 yX4_costWith, Cond.instanceMethod yX4_costWith]
def wsX6_costOf_r2 : List Cond := [Cond.selects RX4 yX4_costWith yX4_costWith, Cond.code yX4_costWith cX4_costWith 3 (some .int), Cond.fieldLink RX4 9 "PricedPairs$Table" "idleCosts" "[I"]
def wsX6_costOf : List Cond := .code yX6_costOf cX6_costOf 3 (some .int) :: ((wsX6_costOf_r1 ++ wsX6_costOf_r2) ++ wsX60 ++ wsX40)
def wsX6_total_r1 : List Cond := [Cond.fieldLink RX6 28 "PricedPairs" "plans" "LPricedPairs$Plans;", Cond.methodLink RX6 121 yX1_leastTotal, Cond.instanceMethod yX1_leastTotal, Cond.selects RX1 yX1_leastTotal yX1_leastTotal, Cond.initialized RX1, Cond.code yX1_leastTotal cX1_leastTotal 1 (some .int), Cond.fieldLink RX1 9 "PricedPairs$Plans" "table" "LPricedPairs$Table;", Cond.methodLink RX1 24 yX4_allWorkers, Cond.instanceMethod yX4_allWorkers, Cond.selects RX4 yX4_allWorkers yX4_allWorkers, Cond.initialized RX4, Cond.code yX4_allWorkers cX4_allWorkers 1 (some .int), Cond.fieldLink RX4 20 "PricedPairs$Table" "workers" "I", Cond.methodLink RX1 30 yX1_leastTotalOf, Cond.instanceMethod yX1_leastTotalOf, Cond.selects RX1 yX1_leastTotalOf yX1_leastTotalOf, Cond.code yX1_leastTotalOf cX1_leastTotalOf 2 (some .int), Cond.fieldLink RX1 21 "PricedPairs$Plans" "least" "[[I", Cond.methodLink RX1 34 yX1_weigh, Cond.instanceMethod yX1_weigh, Cond.selects RX1 yX1_weigh yX1_weigh, Cond.code yX1_weigh cX1_weigh 6 none, Cond.fieldLink RX1 38 "PricedPairs$Table" "tasks" "I", Cond.fieldLink RX1 42 "PricedPairs$Table" "workers" "I"]
def wsX6_total_r2 : List Cond := [Cond.methodLink RX1 45 yX1_leastFrom, Cond.instanceMethod yX1_leastFrom, Cond.selects RX1 yX1_leastFrom yX1_leastFrom, Cond.code yX1_leastFrom cX1_leastFrom 5 (some .int), Cond.fieldLink RX1 49 "PricedPairs$Table" "idleCosts" "[I", Cond.methodLink RX1 56 Lib.Math.min.name, Cond.static Lib.Math.min.name, Cond.initialized "java/lang/Math", Cond.code Lib.Math.min.name Lib.Math.min.code 2 (some .int), Cond.methodLink RX1 52 yX1_totalFrom, Cond.instanceMethod yX1_totalFrom, Cond.selects RX1 yX1_totalFrom yX1_totalFrom, Cond.code yX1_totalFrom cX1_totalFrom 5 (some .int), Cond.fieldLink RX1 61 "PricedPairs$Table" "costs" "[[I", Cond.constant RX1 64 (1000000)]
def wsX6_total : List Cond := .code yX6_total cX6_total 1 (some .int) :: ((wsX6_total_r1 ++ wsX6_total_r2) ++ wsX60 ++ wsX10 ++ wsX40)
def wsX6_taskOf_r1 : List Cond := [Cond.fieldLink RX6 28 "PricedPairs" "plans" "LPricedPairs$Plans;", Cond.fieldLink RX6 128 "PricedPairs$Plans" "chosen" "[I", Cond.methodLink RX6 78 yX6_isWorker, Cond.instanceMethod yX6_isWorker, Cond.selects RX6 yX6_isWorker yX6_isWorker, Cond.initialized RX6, Cond.code yX6_isWorker cX6_isWorker 2 (some .boolean), Cond.fieldLink RX6 10 "PricedPairs" "table" "LPricedPairs$Table;", Cond.fieldLink RX6 61 "PricedPairs$Table" "workers" "I", Cond.methodLink RX6 125 yX1_chooseFirst, Cond.instanceMethod yX1_chooseFirst, Cond.selects RX1 yX1_chooseFirst yX1_chooseFirst, Cond.initialized RX1, Cond.code yX1_chooseFirst cX1_chooseFirst 3 none, Cond.fieldLink RX1 68 "PricedPairs$Plans" "chosenTotal" "I", Cond.fieldLink RX1 9 "PricedPairs$Plans" "table" "LPricedPairs$Table;", Cond.fieldLink RX1 42 "PricedPairs$Table" "workers" "I", Cond.fieldLink RX1 15 "PricedPairs$Plans" "chosen" "[I", Cond.methodLink RX1 65 yX1_leastTotal, Cond.instanceMethod yX1_leastTotal, Cond.selects RX1 yX1_leastTotal yX1_leastTotal, Cond.code yX1_leastTotal cX1_leastTotal 1 (some .int), Cond.methodLink RX1 24 yX4_allWorkers, Cond.instanceMethod yX4_allWorkers]
def wsX6_taskOf_r2 : List Cond := [Cond.selects RX4 yX4_allWorkers yX4_allWorkers, Cond.initialized RX4, Cond.code yX4_allWorkers cX4_allWorkers 1 (some .int), Cond.fieldLink RX4 20 "PricedPairs$Table" "workers" "I", Cond.methodLink RX1 30 yX1_leastTotalOf, Cond.instanceMethod yX1_leastTotalOf, Cond.selects RX1 yX1_leastTotalOf yX1_leastTotalOf, Cond.code yX1_leastTotalOf cX1_leastTotalOf 2 (some .int), Cond.fieldLink RX1 21 "PricedPairs$Plans" "least" "[[I", Cond.methodLink RX1 34 yX1_weigh, Cond.instanceMethod yX1_weigh, Cond.selects RX1 yX1_weigh yX1_weigh, Cond.code yX1_weigh cX1_weigh 6 none, Cond.fieldLink RX1 38 "PricedPairs$Table" "tasks" "I", Cond.methodLink RX1 45 yX1_leastFrom, Cond.instanceMethod yX1_leastFrom, Cond.selects RX1 yX1_leastFrom yX1_leastFrom, Cond.code yX1_leastFrom cX1_leastFrom 5 (some .int), Cond.fieldLink RX1 49 "PricedPairs$Table" "idleCosts" "[I", Cond.methodLink RX1 56 Lib.Math.min.name, Cond.static Lib.Math.min.name, Cond.initialized "java/lang/Math", Cond.code Lib.Math.min.name Lib.Math.min.code 2 (some .int), Cond.methodLink RX1 52 yX1_totalFrom]
def wsX6_taskOf_r3 : List Cond := [Cond.instanceMethod yX1_totalFrom, Cond.selects RX1 yX1_totalFrom yX1_totalFrom, Cond.code yX1_totalFrom cX1_totalFrom 5 (some .int), Cond.fieldLink RX1 61 "PricedPairs$Table" "costs" "[[I", Cond.constant RX1 64 (1000000), Cond.methodLink RX1 71 yX1_lowestBestTask, Cond.instanceMethod yX1_lowestBestTask, Cond.selects RX1 yX1_lowestBestTask yX1_lowestBestTask, Cond.code yX1_lowestBestTask cX1_lowestBestTask 4 (some .int)]
def wsX6_taskOf : List Cond := .code yX6_taskOf cX6_taskOf 3 (some .int) :: ((wsX6_taskOf_r1 ++ (wsX6_taskOf_r2 ++ wsX6_taskOf_r3)) ++ wsX60 ++ wsX10 ++ wsX40)
def wsX6_workerOf_r1 : List Cond := [Cond.fieldLink RX6 28 "PricedPairs" "plans" "LPricedPairs$Plans;", Cond.fieldLink RX6 10 "PricedPairs" "table" "LPricedPairs$Table;", Cond.fieldLink RX6 61 "PricedPairs$Table" "workers" "I", Cond.fieldLink RX6 128 "PricedPairs$Plans" "chosen" "[I", Cond.methodLink RX6 84 yX6_isTask, Cond.instanceMethod yX6_isTask, Cond.selects RX6 yX6_isTask yX6_isTask, Cond.initialized RX6, Cond.code yX6_isTask cX6_isTask 2 (some .boolean), Cond.fieldLink RX6 72 "PricedPairs$Table" "tasks" "I", Cond.methodLink RX6 125 yX1_chooseFirst, Cond.instanceMethod yX1_chooseFirst, Cond.selects RX1 yX1_chooseFirst yX1_chooseFirst, Cond.initialized RX1, Cond.code yX1_chooseFirst cX1_chooseFirst 3 none, Cond.fieldLink RX1 68 "PricedPairs$Plans" "chosenTotal" "I", Cond.fieldLink RX1 9 "PricedPairs$Plans" "table" "LPricedPairs$Table;", Cond.fieldLink RX1 42 "PricedPairs$Table" "workers" "I", Cond.fieldLink RX1 15 "PricedPairs$Plans" "chosen" "[I", Cond.methodLink RX1 65 yX1_leastTotal, Cond.instanceMethod yX1_leastTotal, Cond.selects RX1 yX1_leastTotal yX1_leastTotal, Cond.code yX1_leastTotal cX1_leastTotal 1 (some .int), Cond.methodLink RX1 24 yX4_allWorkers]
def wsX6_workerOf_r2 : List Cond := [Cond.instanceMethod yX4_allWorkers, Cond.selects RX4 yX4_allWorkers yX4_allWorkers, Cond.initialized RX4, Cond.code yX4_allWorkers cX4_allWorkers 1 (some .int), Cond.fieldLink RX4 20 "PricedPairs$Table" "workers" "I", Cond.methodLink RX1 30 yX1_leastTotalOf, Cond.instanceMethod yX1_leastTotalOf, Cond.selects RX1 yX1_leastTotalOf yX1_leastTotalOf, Cond.code yX1_leastTotalOf cX1_leastTotalOf 2 (some .int), Cond.fieldLink RX1 21 "PricedPairs$Plans" "least" "[[I", Cond.methodLink RX1 34 yX1_weigh, Cond.instanceMethod yX1_weigh, Cond.selects RX1 yX1_weigh yX1_weigh, Cond.code yX1_weigh cX1_weigh 6 none, Cond.fieldLink RX1 38 "PricedPairs$Table" "tasks" "I", Cond.methodLink RX1 45 yX1_leastFrom, Cond.instanceMethod yX1_leastFrom, Cond.selects RX1 yX1_leastFrom yX1_leastFrom, Cond.code yX1_leastFrom cX1_leastFrom 5 (some .int), Cond.fieldLink RX1 49 "PricedPairs$Table" "idleCosts" "[I", Cond.methodLink RX1 56 Lib.Math.min.name, Cond.static Lib.Math.min.name, Cond.initialized "java/lang/Math", Cond.code Lib.Math.min.name Lib.Math.min.code 2 (some .int)]
def wsX6_workerOf_r3 : List Cond := [Cond.methodLink RX1 52 yX1_totalFrom, Cond.instanceMethod yX1_totalFrom, Cond.selects RX1 yX1_totalFrom yX1_totalFrom, Cond.code yX1_totalFrom cX1_totalFrom 5 (some .int), Cond.fieldLink RX1 61 "PricedPairs$Table" "costs" "[[I", Cond.constant RX1 64 (1000000), Cond.methodLink RX1 71 yX1_lowestBestTask, Cond.instanceMethod yX1_lowestBestTask, Cond.selects RX1 yX1_lowestBestTask yX1_lowestBestTask, Cond.code yX1_lowestBestTask cX1_lowestBestTask 4 (some .int)]
def wsX6_workerOf : List Cond := .code yX6_workerOf cX6_workerOf 3 (some .int) :: ((wsX6_workerOf_r1 ++ (wsX6_workerOf_r2 ++ wsX6_workerOf_r3)) ++ wsX60 ++ wsX40 ++ wsX10)
def wsX6_price_r1 : List Cond := [Cond.fieldLink RX6 37 "PricedPairs" "prices" "LPricedPairs$Prices;", Cond.fieldLink RX6 140 "PricedPairs$Prices" "least" "[I", Cond.methodLink RX6 84 yX6_isTask, Cond.instanceMethod yX6_isTask, Cond.selects RX6 yX6_isTask yX6_isTask, Cond.initialized RX6, Cond.code yX6_isTask cX6_isTask 2 (some .boolean), Cond.fieldLink RX6 10 "PricedPairs" "table" "LPricedPairs$Table;", Cond.fieldLink RX6 72 "PricedPairs$Table" "tasks" "I", Cond.methodLink RX6 134 yX2_greatestOf, Cond.instanceMethod yX2_greatestOf, Cond.selects RX2 yX2_greatestOf yX2_greatestOf, Cond.initialized RX2, Cond.code yX2_greatestOf cX2_greatestOf 2 (some .int), Cond.fieldLink RX2 15 "PricedPairs$Prices" "plans" "LPricedPairs$Plans;", Cond.methodLink RX2 59 yX1_lossWithoutTask, Cond.instanceMethod yX1_lossWithoutTask, Cond.selects RX1 yX1_lossWithoutTask yX1_lossWithoutTask, Cond.initialized RX1, Cond.code yX1_lossWithoutTask cX1_lossWithoutTask 2 (some .int), Cond.fieldLink RX1 9 "PricedPairs$Plans" "table" "LPricedPairs$Table;", Cond.fieldLink RX1 21 "PricedPairs$Plans" "least" "[[I", Cond.methodLink RX1 24 yX4_allWorkers, Cond.instanceMethod yX4_allWorkers]
def wsX6_price_r2 : List Cond := [Cond.selects RX4 yX4_allWorkers yX4_allWorkers, Cond.initialized RX4, Cond.code yX4_allWorkers cX4_allWorkers 1 (some .int), Cond.fieldLink RX4 20 "PricedPairs$Table" "workers" "I", Cond.methodLink RX1 34 yX1_weigh, Cond.instanceMethod yX1_weigh, Cond.selects RX1 yX1_weigh yX1_weigh, Cond.code yX1_weigh cX1_weigh 6 none, Cond.fieldLink RX1 38 "PricedPairs$Table" "tasks" "I", Cond.fieldLink RX1 42 "PricedPairs$Table" "workers" "I", Cond.methodLink RX1 45 yX1_leastFrom, Cond.instanceMethod yX1_leastFrom, Cond.selects RX1 yX1_leastFrom yX1_leastFrom, Cond.code yX1_leastFrom cX1_leastFrom 5 (some .int), Cond.fieldLink RX1 49 "PricedPairs$Table" "idleCosts" "[I", Cond.methodLink RX1 56 Lib.Math.min.name, Cond.static Lib.Math.min.name, Cond.initialized "java/lang/Math", Cond.code Lib.Math.min.name Lib.Math.min.code 2 (some .int), Cond.methodLink RX1 52 yX1_totalFrom, Cond.instanceMethod yX1_totalFrom, Cond.selects RX1 yX1_totalFrom yX1_totalFrom, Cond.code yX1_totalFrom cX1_totalFrom 5 (some .int), Cond.fieldLink RX1 61 "PricedPairs$Table" "costs" "[[I"]
def wsX6_price_r3 : List Cond := [Cond.constant RX1 64 (1000000), Cond.methodLink RX6 137 yX2_findLeast, Cond.instanceMethod yX2_findLeast, Cond.selects RX2 yX2_findLeast yX2_findLeast, Cond.code yX2_findLeast cX2_findLeast 5 none, Cond.fieldLink RX2 9 "PricedPairs$Prices" "table" "LPricedPairs$Table;", Cond.fieldLink RX2 23 "PricedPairs$Table" "tasks" "I", Cond.fieldLink RX2 19 "PricedPairs$Prices" "least" "[I", Cond.fieldLink RX2 35 "PricedPairs$Table" "workers" "I", Cond.fieldLink RX2 49 "PricedPairs$Table" "costs" "[[I", Cond.methodLink RX2 53 Lib.Math.max.name, Cond.static Lib.Math.max.name, Cond.code Lib.Math.max.name Lib.Math.max.code 2 (some .int), Cond.methodLink RX2 29 yX1_leastTotal, Cond.instanceMethod yX1_leastTotal, Cond.selects RX1 yX1_leastTotal yX1_leastTotal, Cond.code yX1_leastTotal cX1_leastTotal 1 (some .int), Cond.methodLink RX1 30 yX1_leastTotalOf, Cond.instanceMethod yX1_leastTotalOf, Cond.selects RX1 yX1_leastTotalOf yX1_leastTotalOf, Cond.code yX1_leastTotalOf cX1_leastTotalOf 2 (some .int), Cond.methodLink RX2 38 yX4_allWorkersBut, Cond.instanceMethod yX4_allWorkersBut, Cond.selects RX4 yX4_allWorkersBut yX4_allWorkersBut]
def wsX6_price_r4 : List Cond := [Cond.code yX4_allWorkersBut cX4_allWorkersBut 2 (some .int), Cond.methodLink RX4 37 yX4_allWorkers, Cond.methodLink RX2 42 yX1_leastTotalOf, Cond.methodLink RX2 45 yX4_isBarred, Cond.instanceMethod yX4_isBarred, Cond.selects RX4 yX4_isBarred yX4_isBarred, Cond.code yX4_isBarred cX4_isBarred 3 (some .boolean), Cond.fieldLink RX4 17 "PricedPairs$Table" "costs" "[[I"]
def wsX6_price : List Cond := .code yX6_price cX6_price 3 (some .int) :: ((wsX6_price_r1 ++ (wsX6_price_r2 ++ (wsX6_price_r3 ++ wsX6_price_r4))) ++ wsX60 ++ wsX20 ++ wsX40 ++ wsX10)
def wsX6_workerIs_r1 : List Cond := [Cond.fieldLink RX6 28 "PricedPairs" "plans" "LPricedPairs$Plans;", Cond.fieldLink RX6 10 "PricedPairs" "table" "LPricedPairs$Table;", Cond.fieldLink RX6 37 "PricedPairs" "prices" "LPricedPairs$Prices;", Cond.fieldLink RX6 99 "PricedPairs$Table" "idleCosts" "[I", Cond.methodLink RX6 78 yX6_isWorker, Cond.instanceMethod yX6_isWorker, Cond.selects RX6 yX6_isWorker yX6_isWorker, Cond.initialized RX6, Cond.code yX6_isWorker cX6_isWorker 2 (some .boolean), Cond.fieldLink RX6 61 "PricedPairs$Table" "workers" "I", Cond.methodLink RX6 121 yX1_leastTotal, Cond.instanceMethod yX1_leastTotal, Cond.selects RX1 yX1_leastTotal yX1_leastTotal, Cond.initialized RX1, Cond.code yX1_leastTotal cX1_leastTotal 1 (some .int), Cond.fieldLink RX1 9 "PricedPairs$Plans" "table" "LPricedPairs$Table;", Cond.methodLink RX1 24 yX4_allWorkers, Cond.instanceMethod yX4_allWorkers, Cond.selects RX4 yX4_allWorkers yX4_allWorkers, Cond.initialized RX4, Cond.code yX4_allWorkers cX4_allWorkers 1 (some .int), Cond.fieldLink RX4 20 "PricedPairs$Table" "workers" "I", Cond.methodLink RX1 30 yX1_leastTotalOf, Cond.instanceMethod yX1_leastTotalOf]
def wsX6_workerIs_r2 : List Cond := [Cond.selects RX1 yX1_leastTotalOf yX1_leastTotalOf, Cond.code yX1_leastTotalOf cX1_leastTotalOf 2 (some .int), Cond.fieldLink RX1 21 "PricedPairs$Plans" "least" "[[I", Cond.methodLink RX1 34 yX1_weigh, Cond.instanceMethod yX1_weigh, Cond.selects RX1 yX1_weigh yX1_weigh, Cond.code yX1_weigh cX1_weigh 6 none, Cond.fieldLink RX1 38 "PricedPairs$Table" "tasks" "I", Cond.fieldLink RX1 42 "PricedPairs$Table" "workers" "I", Cond.methodLink RX1 45 yX1_leastFrom, Cond.instanceMethod yX1_leastFrom, Cond.selects RX1 yX1_leastFrom yX1_leastFrom, Cond.code yX1_leastFrom cX1_leastFrom 5 (some .int), Cond.fieldLink RX1 49 "PricedPairs$Table" "idleCosts" "[I", Cond.methodLink RX1 56 Lib.Math.min.name, Cond.static Lib.Math.min.name, Cond.initialized "java/lang/Math", Cond.code Lib.Math.min.name Lib.Math.min.code 2 (some .int), Cond.methodLink RX1 52 yX1_totalFrom, Cond.instanceMethod yX1_totalFrom, Cond.selects RX1 yX1_totalFrom yX1_totalFrom, Cond.code yX1_totalFrom cX1_totalFrom 5 (some .int), Cond.fieldLink RX1 61 "PricedPairs$Table" "costs" "[[I", Cond.constant RX1 64 (1000000)]
def wsX6_workerIs_r3 : List Cond := [Cond.methodLink RX6 143 yX4_allWorkersBut, Cond.instanceMethod yX4_allWorkersBut, Cond.selects RX4 yX4_allWorkersBut yX4_allWorkersBut, Cond.code yX4_allWorkersBut cX4_allWorkersBut 2 (some .int), Cond.methodLink RX4 37 yX4_allWorkers, Cond.methodLink RX6 131 yX1_leastTotalOf, Cond.methodLink RX6 137 yX2_findLeast, Cond.instanceMethod yX2_findLeast, Cond.selects RX2 yX2_findLeast yX2_findLeast, Cond.initialized RX2, Cond.code yX2_findLeast cX2_findLeast 5 none, Cond.fieldLink RX2 9 "PricedPairs$Prices" "table" "LPricedPairs$Table;", Cond.fieldLink RX2 23 "PricedPairs$Table" "tasks" "I", Cond.fieldLink RX2 19 "PricedPairs$Prices" "least" "[I", Cond.fieldLink RX2 15 "PricedPairs$Prices" "plans" "LPricedPairs$Plans;", Cond.fieldLink RX2 35 "PricedPairs$Table" "workers" "I", Cond.fieldLink RX2 49 "PricedPairs$Table" "costs" "[[I", Cond.methodLink RX2 53 Lib.Math.max.name, Cond.static Lib.Math.max.name, Cond.code Lib.Math.max.name Lib.Math.max.code 2 (some .int), Cond.methodLink RX2 29 yX1_leastTotal, Cond.methodLink RX2 38 yX4_allWorkersBut, Cond.methodLink RX2 42 yX1_leastTotalOf, Cond.methodLink RX2 45 yX4_isBarred]
def wsX6_workerIs_r4 : List Cond := [Cond.instanceMethod yX4_isBarred, Cond.selects RX4 yX4_isBarred yX4_isBarred, Cond.code yX4_isBarred cX4_isBarred 3 (some .boolean), Cond.fieldLink RX4 17 "PricedPairs$Table" "costs" "[[I", Cond.methodLink RX6 146 yX2_worthOf, Cond.instanceMethod yX2_worthOf, Cond.selects RX2 yX2_worthOf yX2_worthOf, Cond.code yX2_worthOf cX2_worthOf 4 (some .int), Cond.fieldLink RX2 65 "PricedPairs$Table" "idleCosts" "[I", Cond.methodLink RX2 68 Lib.Math.min.name, Cond.methodLink RX6 149 yX2_tightTasksOf, Cond.instanceMethod yX2_tightTasksOf, Cond.selects RX2 yX2_tightTasksOf yX2_tightTasksOf, Cond.code yX2_tightTasksOf cX2_tightTasksOf 5 (some .int), Cond.methodLink RX2 71 yX2_worthOf]
def wsX6_workerIs : List Cond := .code yX6_workerIs cX6_workerIs 3 (some .int) :: ((wsX6_workerIs_r1 ++ (wsX6_workerIs_r2 ++ (wsX6_workerIs_r3 ++ wsX6_workerIs_r4))) ++ wsX60 ++ wsX40 ++ wsX10 ++ wsX20)
def wsX6_proof_r1 : List Cond := [Cond.fieldLink RX6 37 "PricedPairs" "prices" "LPricedPairs$Prices;", Cond.methodLink RX6 137 yX2_findLeast, Cond.instanceMethod yX2_findLeast, Cond.selects RX2 yX2_findLeast yX2_findLeast, Cond.initialized RX2, Cond.code yX2_findLeast cX2_findLeast 5 none, Cond.fieldLink RX2 9 "PricedPairs$Prices" "table" "LPricedPairs$Table;", Cond.fieldLink RX2 23 "PricedPairs$Table" "tasks" "I", Cond.fieldLink RX2 19 "PricedPairs$Prices" "least" "[I", Cond.fieldLink RX2 15 "PricedPairs$Prices" "plans" "LPricedPairs$Plans;", Cond.fieldLink RX2 35 "PricedPairs$Table" "workers" "I", Cond.fieldLink RX2 49 "PricedPairs$Table" "costs" "[[I", Cond.methodLink RX2 53 Lib.Math.max.name, Cond.static Lib.Math.max.name, Cond.initialized "java/lang/Math", Cond.code Lib.Math.max.name Lib.Math.max.code 2 (some .int), Cond.methodLink RX2 29 yX1_leastTotal, Cond.instanceMethod yX1_leastTotal, Cond.selects RX1 yX1_leastTotal yX1_leastTotal, Cond.initialized RX1, Cond.code yX1_leastTotal cX1_leastTotal 1 (some .int), Cond.fieldLink RX1 9 "PricedPairs$Plans" "table" "LPricedPairs$Table;", Cond.methodLink RX1 24 yX4_allWorkers, Cond.instanceMethod yX4_allWorkers]
def wsX6_proof_r2 : List Cond := [Cond.selects RX4 yX4_allWorkers yX4_allWorkers, Cond.initialized RX4, Cond.code yX4_allWorkers cX4_allWorkers 1 (some .int), Cond.fieldLink RX4 20 "PricedPairs$Table" "workers" "I", Cond.methodLink RX1 30 yX1_leastTotalOf, Cond.instanceMethod yX1_leastTotalOf, Cond.selects RX1 yX1_leastTotalOf yX1_leastTotalOf, Cond.code yX1_leastTotalOf cX1_leastTotalOf 2 (some .int), Cond.fieldLink RX1 21 "PricedPairs$Plans" "least" "[[I", Cond.methodLink RX1 34 yX1_weigh, Cond.instanceMethod yX1_weigh, Cond.selects RX1 yX1_weigh yX1_weigh, Cond.code yX1_weigh cX1_weigh 6 none, Cond.fieldLink RX1 38 "PricedPairs$Table" "tasks" "I", Cond.fieldLink RX1 42 "PricedPairs$Table" "workers" "I", Cond.methodLink RX1 45 yX1_leastFrom, Cond.instanceMethod yX1_leastFrom, Cond.selects RX1 yX1_leastFrom yX1_leastFrom, Cond.code yX1_leastFrom cX1_leastFrom 5 (some .int), Cond.fieldLink RX1 49 "PricedPairs$Table" "idleCosts" "[I", Cond.methodLink RX1 56 Lib.Math.min.name, Cond.static Lib.Math.min.name, Cond.code Lib.Math.min.name Lib.Math.min.code 2 (some .int), Cond.methodLink RX1 52 yX1_totalFrom]
def wsX6_proof_r3 : List Cond := [Cond.instanceMethod yX1_totalFrom, Cond.selects RX1 yX1_totalFrom yX1_totalFrom, Cond.code yX1_totalFrom cX1_totalFrom 5 (some .int), Cond.fieldLink RX1 61 "PricedPairs$Table" "costs" "[[I", Cond.constant RX1 64 (1000000), Cond.methodLink RX2 38 yX4_allWorkersBut, Cond.instanceMethod yX4_allWorkersBut, Cond.selects RX4 yX4_allWorkersBut yX4_allWorkersBut, Cond.code yX4_allWorkersBut cX4_allWorkersBut 2 (some .int), Cond.methodLink RX4 37 yX4_allWorkers, Cond.methodLink RX2 42 yX1_leastTotalOf, Cond.methodLink RX2 45 yX4_isBarred, Cond.instanceMethod yX4_isBarred, Cond.selects RX4 yX4_isBarred yX4_isBarred, Cond.code yX4_isBarred cX4_isBarred 3 (some .boolean), Cond.fieldLink RX4 17 "PricedPairs$Table" "costs" "[[I", Cond.methodLink RX6 152 yX2_sumOfWorths, Cond.instanceMethod yX2_sumOfWorths, Cond.selects RX2 yX2_sumOfWorths yX2_sumOfWorths, Cond.code yX2_sumOfWorths cX2_sumOfWorths 3 (some .int), Cond.methodLink RX2 71 yX2_worthOf, Cond.instanceMethod yX2_worthOf, Cond.selects RX2 yX2_worthOf yX2_worthOf, Cond.code yX2_worthOf cX2_worthOf 4 (some .int)]
def wsX6_proof_r4 : List Cond := [Cond.fieldLink RX2 65 "PricedPairs$Table" "idleCosts" "[I", Cond.methodLink RX2 68 Lib.Math.min.name, Cond.methodLink RX6 155 yX2_sumOfLeast, Cond.instanceMethod yX2_sumOfLeast, Cond.selects RX2 yX2_sumOfLeast yX2_sumOfLeast, Cond.code yX2_sumOfLeast cX2_sumOfLeast 3 (some .int)]
def wsX6_proof : List Cond := .code yX6_proof cX6_proof 1 (some .int) :: ((wsX6_proof_r1 ++ (wsX6_proof_r2 ++ (wsX6_proof_r3 ++ wsX6_proof_r4))) ++ wsX60 ++ wsX20 ++ wsX40 ++ wsX10)
def wsX6_count_r1 : List Cond := [Cond.fieldLink RX6 10 "PricedPairs" "table" "LPricedPairs$Table;", Cond.fieldLink RX6 61 "PricedPairs$Table" "workers" "I", Cond.fieldLink RX6 72 "PricedPairs$Table" "tasks" "I", Cond.fieldLink RX6 28 "PricedPairs" "plans" "LPricedPairs$Plans;", Cond.fieldLink RX6 37 "PricedPairs" "prices" "LPricedPairs$Prices;", Cond.fieldLink RX6 19 "PricedPairs" "history" "LPricedPairs$History;", Cond.fieldLink RX6 185 "PricedPairs$History" "size" "I", Cond.fieldLink RX6 44 "PricedPairs" "text" "LPricedPairs$Text;", Cond.fieldLink RX6 188 "PricedPairs$Text" "length" "I", Cond.methodLink RX6 173 yX4_openPairs, Cond.instanceMethod yX4_openPairs, Cond.selects RX4 yX4_openPairs yX4_openPairs, Cond.initialized RX4, Cond.code yX4_openPairs cX4_openPairs 4 (some .int), Cond.fieldLink RX4 20 "PricedPairs$Table" "workers" "I", Cond.fieldLink RX4 24 "PricedPairs$Table" "tasks" "I", Cond.methodLink RX4 33 yX4_isBarred, Cond.instanceMethod yX4_isBarred, Cond.selects RX4 yX4_isBarred yX4_isBarred, Cond.code yX4_isBarred cX4_isBarred 3 (some .boolean), Cond.fieldLink RX4 17 "PricedPairs$Table" "costs" "[[I", Cond.methodLink RX6 125 yX1_chooseFirst, Cond.instanceMethod yX1_chooseFirst, Cond.selects RX1 yX1_chooseFirst yX1_chooseFirst]
def wsX6_count_r2 : List Cond := [Cond.initialized RX1, Cond.code yX1_chooseFirst cX1_chooseFirst 3 none, Cond.fieldLink RX1 68 "PricedPairs$Plans" "chosenTotal" "I", Cond.fieldLink RX1 9 "PricedPairs$Plans" "table" "LPricedPairs$Table;", Cond.fieldLink RX1 42 "PricedPairs$Table" "workers" "I", Cond.fieldLink RX1 15 "PricedPairs$Plans" "chosen" "[I", Cond.methodLink RX1 65 yX1_leastTotal, Cond.instanceMethod yX1_leastTotal, Cond.selects RX1 yX1_leastTotal yX1_leastTotal, Cond.code yX1_leastTotal cX1_leastTotal 1 (some .int), Cond.methodLink RX1 24 yX4_allWorkers, Cond.instanceMethod yX4_allWorkers, Cond.selects RX4 yX4_allWorkers yX4_allWorkers, Cond.code yX4_allWorkers cX4_allWorkers 1 (some .int), Cond.methodLink RX1 30 yX1_leastTotalOf, Cond.instanceMethod yX1_leastTotalOf, Cond.selects RX1 yX1_leastTotalOf yX1_leastTotalOf, Cond.code yX1_leastTotalOf cX1_leastTotalOf 2 (some .int), Cond.fieldLink RX1 21 "PricedPairs$Plans" "least" "[[I", Cond.methodLink RX1 34 yX1_weigh, Cond.instanceMethod yX1_weigh, Cond.selects RX1 yX1_weigh yX1_weigh, Cond.code yX1_weigh cX1_weigh 6 none, Cond.fieldLink RX1 38 "PricedPairs$Table" "tasks" "I"]
def wsX6_count_r3 : List Cond := [Cond.methodLink RX1 45 yX1_leastFrom, Cond.instanceMethod yX1_leastFrom, Cond.selects RX1 yX1_leastFrom yX1_leastFrom, Cond.code yX1_leastFrom cX1_leastFrom 5 (some .int), Cond.fieldLink RX1 49 "PricedPairs$Table" "idleCosts" "[I", Cond.methodLink RX1 56 Lib.Math.min.name, Cond.static Lib.Math.min.name, Cond.initialized "java/lang/Math", Cond.code Lib.Math.min.name Lib.Math.min.code 2 (some .int), Cond.methodLink RX1 52 yX1_totalFrom, Cond.instanceMethod yX1_totalFrom, Cond.selects RX1 yX1_totalFrom yX1_totalFrom, Cond.code yX1_totalFrom cX1_totalFrom 5 (some .int), Cond.fieldLink RX1 61 "PricedPairs$Table" "costs" "[[I", Cond.constant RX1 64 (1000000), Cond.methodLink RX1 71 yX1_lowestBestTask, Cond.instanceMethod yX1_lowestBestTask, Cond.selects RX1 yX1_lowestBestTask yX1_lowestBestTask, Cond.code yX1_lowestBestTask cX1_lowestBestTask 4 (some .int), Cond.methodLink RX6 176 yX1_chosenPairs, Cond.instanceMethod yX1_chosenPairs, Cond.selects RX1 yX1_chosenPairs yX1_chosenPairs, Cond.code yX1_chosenPairs cX1_chosenPairs 3 (some .int), Cond.methodLink RX6 137 yX2_findLeast]
def wsX6_count_r4 : List Cond := [Cond.instanceMethod yX2_findLeast, Cond.selects RX2 yX2_findLeast yX2_findLeast, Cond.initialized RX2, Cond.code yX2_findLeast cX2_findLeast 5 none, Cond.fieldLink RX2 9 "PricedPairs$Prices" "table" "LPricedPairs$Table;", Cond.fieldLink RX2 23 "PricedPairs$Table" "tasks" "I", Cond.fieldLink RX2 19 "PricedPairs$Prices" "least" "[I", Cond.fieldLink RX2 15 "PricedPairs$Prices" "plans" "LPricedPairs$Plans;", Cond.fieldLink RX2 35 "PricedPairs$Table" "workers" "I", Cond.fieldLink RX2 49 "PricedPairs$Table" "costs" "[[I", Cond.methodLink RX2 53 Lib.Math.max.name, Cond.static Lib.Math.max.name, Cond.code Lib.Math.max.name Lib.Math.max.code 2 (some .int), Cond.methodLink RX2 29 yX1_leastTotal, Cond.methodLink RX2 38 yX4_allWorkersBut, Cond.instanceMethod yX4_allWorkersBut, Cond.selects RX4 yX4_allWorkersBut yX4_allWorkersBut, Cond.code yX4_allWorkersBut cX4_allWorkersBut 2 (some .int), Cond.methodLink RX4 37 yX4_allWorkers, Cond.methodLink RX2 42 yX1_leastTotalOf, Cond.methodLink RX2 45 yX4_isBarred, Cond.methodLink RX6 179 yX2_tightPairs, Cond.instanceMethod yX2_tightPairs, Cond.selects RX2 yX2_tightPairs yX2_tightPairs]
def wsX6_count_r5 : List Cond := [Cond.code yX2_tightPairs cX2_tightPairs 3 (some .int), Cond.methodLink RX2 74 yX2_tightTasksOf, Cond.instanceMethod yX2_tightTasksOf, Cond.selects RX2 yX2_tightTasksOf yX2_tightTasksOf, Cond.code yX2_tightTasksOf cX2_tightTasksOf 5 (some .int), Cond.methodLink RX2 71 yX2_worthOf, Cond.instanceMethod yX2_worthOf, Cond.selects RX2 yX2_worthOf yX2_worthOf, Cond.code yX2_worthOf cX2_worthOf 4 (some .int), Cond.fieldLink RX2 65 "PricedPairs$Table" "idleCosts" "[I", Cond.methodLink RX2 68 Lib.Math.min.name, Cond.methodLink RX2 77 yJ6_bitCount_0f7a4, Cond.static yJ6_bitCount_0f7a4, Cond.initialized RJ6, Cond.code yJ6_bitCount_0f7a4 cJ6_bitCount_0f7a4 1 (some .int), Cond.constant RJ6 265 (1431655765), Cond.constant RJ6 266 (858993459), Cond.constant RJ6 267 (252645135), Cond.methodLink RX6 155 yX2_sumOfLeast, Cond.instanceMethod yX2_sumOfLeast, Cond.selects RX2 yX2_sumOfLeast yX2_sumOfLeast, Cond.code yX2_sumOfLeast cX2_sumOfLeast 3 (some .int), Cond.methodLink RX6 182 yX2_sumOfGreatest, Cond.instanceMethod yX2_sumOfGreatest]
def wsX6_count_r6 : List Cond := [Cond.selects RX2 yX2_sumOfGreatest yX2_sumOfGreatest, Cond.code yX2_sumOfGreatest cX2_sumOfGreatest 3 (some .int), Cond.methodLink RX2 62 yX2_greatestOf, Cond.instanceMethod yX2_greatestOf, Cond.selects RX2 yX2_greatestOf yX2_greatestOf, Cond.code yX2_greatestOf cX2_greatestOf 2 (some .int), Cond.methodLink RX2 59 yX1_lossWithoutTask, Cond.instanceMethod yX1_lossWithoutTask, Cond.selects RX1 yX1_lossWithoutTask yX1_lossWithoutTask, Cond.code yX1_lossWithoutTask cX1_lossWithoutTask 2 (some .int)]
def wsX6_count : List Cond := .code yX6_count cX6_count 2 (some .int) :: ((wsX6_count_r1 ++ (wsX6_count_r2 ++ (wsX6_count_r3 ++ (wsX6_count_r4 ++ (wsX6_count_r5 ++ wsX6_count_r6))))) ++ wsX60 ++ wsX40 ++ wsX00 ++ wsX50 ++ wsX10 ++ wsX20)
def wsX6_type : List Cond := .code yX6_type cX6_type 2 (some .int) :: ([.fieldLink RX6 44 "PricedPairs" "text" "LPricedPairs$Text;", .fieldLink RX6 188 "PricedPairs$Text" "length" "I", .methodLink RX6 194 yX5_append, .instanceMethod yX5_append, .selects RX5 yX5_append yX5_append, .initialized RX5, .code yX5_append cX5_append 2 none, .fieldLink RX5 9 "PricedPairs$Text" "signs" "[C", .fieldLink RX5 15 "PricedPairs$Text" "length" "I"] ++ wsX60 ++ wsX50)
def wsX6_clearText : List Cond := .code yX6_clearText cX6_clearText 2 (some .int) :: ([.fieldLink RX6 44 "PricedPairs" "text" "LPricedPairs$Text;", .fieldLink RX6 188 "PricedPairs$Text" "length" "I"] ++ wsX60 ++ wsX50)
def wsX6_fault_r1 : List Cond := [Cond.fieldLink RX6 53 "PricedPairs" "reader" "LPricedPairs$Reader;", Cond.fieldLink RX6 201 "PricedPairs$Reader" "reason" "I", Cond.fieldLink RX6 204 "PricedPairs$Reader" "place" "I", Cond.methodLink RX6 198 yX3_readText, Cond.instanceMethod yX3_readText, Cond.selects RX3 yX3_readText yX3_readText, Cond.initialized RX3, Cond.code yX3_readText cX3_readText 3 none, Cond.fieldLink RX3 22 "PricedPairs$Reader" "place" "I", Cond.fieldLink RX3 26 "PricedPairs$Reader" "reason" "I", Cond.fieldLink RX3 18 "PricedPairs$Reader" "found" "LPricedPairs$Table;", Cond.fieldLink RX3 33 "PricedPairs$Table" "workers" "I", Cond.fieldLink RX3 9 "PricedPairs$Reader" "text" "LPricedPairs$Text;", Cond.fieldLink RX3 36 "PricedPairs$Text" "length" "I", Cond.methodLink RX3 29 yX3_readRow, Cond.instanceMethod yX3_readRow, Cond.selects RX3 yX3_readRow yX3_readRow, Cond.code yX3_readRow cX3_readRow 3 none, Cond.fieldLink RX3 49 "PricedPairs$Table" "tasks" "I", Cond.fieldLink RX3 52 "PricedPairs$Table" "idleCosts" "[I", Cond.methodLink RX3 45 yX3_readEntries, Cond.instanceMethod yX3_readEntries, Cond.selects RX3 yX3_readEntries yX3_readEntries, Cond.code yX3_readEntries cX3_readEntries 5 (some .int)]
def wsX6_fault_r2 : List Cond := [Cond.fieldLink RX3 60 "PricedPairs$Table" "costs" "[[I", Cond.methodLink RX3 64 yX3_readEntry, Cond.instanceMethod yX3_readEntry, Cond.selects RX3 yX3_readEntry yX3_readEntry, Cond.code yX3_readEntry cX3_readEntry 1 (some .int), Cond.methodLink RX3 67 yX5_isAt, Cond.instanceMethod yX5_isAt, Cond.selects RX5 yX5_isAt yX5_isAt, Cond.initialized RX5, Cond.code yX5_isAt cX5_isAt 3 (some .boolean), Cond.fieldLink RX5 15 "PricedPairs$Text" "length" "I", Cond.fieldLink RX5 9 "PricedPairs$Text" "signs" "[C", Cond.methodLink RX3 56 yX3_readNumber, Cond.instanceMethod yX3_readNumber, Cond.selects RX3 yX3_readNumber yX3_readNumber, Cond.code yX3_readNumber cX3_readNumber 3 (some .int), Cond.methodLink RX3 71 yX5_digitAt, Cond.instanceMethod yX5_digitAt, Cond.selects RX5 yX5_digitAt yX5_digitAt, Cond.code yX5_digitAt cX5_digitAt 2 (some .int), Cond.methodLink RX3 41 yX3_step, Cond.instanceMethod yX3_step, Cond.selects RX3 yX3_step yX3_step, Cond.code yX3_step cX3_step 3 none]
def wsX6_fault : List Cond := .code yX6_fault cX6_fault 2 (some .int) :: ((wsX6_fault_r1 ++ wsX6_fault_r2) ++ wsX60 ++ wsX30 ++ wsX40 ++ wsX50)
def wsX6_read_r1 : List Cond := [Cond.fieldLink RX6 53 "PricedPairs" "reader" "LPricedPairs$Reader;", Cond.fieldLink RX6 201 "PricedPairs$Reader" "reason" "I", Cond.fieldLink RX6 19 "PricedPairs" "history" "LPricedPairs$History;", Cond.fieldLink RX6 10 "PricedPairs" "table" "LPricedPairs$Table;", Cond.fieldLink RX6 207 "PricedPairs$Reader" "found" "LPricedPairs$Table;", Cond.fieldLink RX6 28 "PricedPairs" "plans" "LPricedPairs$Plans;", Cond.methodLink RX6 198 yX3_readText, Cond.instanceMethod yX3_readText, Cond.selects RX3 yX3_readText yX3_readText, Cond.initialized RX3, Cond.code yX3_readText cX3_readText 3 none, Cond.fieldLink RX3 22 "PricedPairs$Reader" "place" "I", Cond.fieldLink RX3 26 "PricedPairs$Reader" "reason" "I", Cond.fieldLink RX3 18 "PricedPairs$Reader" "found" "LPricedPairs$Table;", Cond.fieldLink RX3 33 "PricedPairs$Table" "workers" "I", Cond.fieldLink RX3 9 "PricedPairs$Reader" "text" "LPricedPairs$Text;", Cond.fieldLink RX3 36 "PricedPairs$Text" "length" "I", Cond.methodLink RX3 29 yX3_readRow, Cond.instanceMethod yX3_readRow, Cond.selects RX3 yX3_readRow yX3_readRow, Cond.code yX3_readRow cX3_readRow 3 none, Cond.fieldLink RX3 49 "PricedPairs$Table" "tasks" "I", Cond.fieldLink RX3 52 "PricedPairs$Table" "idleCosts" "[I", Cond.methodLink RX3 45 yX3_readEntries]
def wsX6_read_r2 : List Cond := [Cond.instanceMethod yX3_readEntries, Cond.selects RX3 yX3_readEntries yX3_readEntries, Cond.code yX3_readEntries cX3_readEntries 5 (some .int), Cond.fieldLink RX3 60 "PricedPairs$Table" "costs" "[[I", Cond.methodLink RX3 64 yX3_readEntry, Cond.instanceMethod yX3_readEntry, Cond.selects RX3 yX3_readEntry yX3_readEntry, Cond.code yX3_readEntry cX3_readEntry 1 (some .int), Cond.methodLink RX3 67 yX5_isAt, Cond.instanceMethod yX5_isAt, Cond.selects RX5 yX5_isAt yX5_isAt, Cond.initialized RX5, Cond.code yX5_isAt cX5_isAt 3 (some .boolean), Cond.fieldLink RX5 15 "PricedPairs$Text" "length" "I", Cond.fieldLink RX5 9 "PricedPairs$Text" "signs" "[C", Cond.methodLink RX3 56 yX3_readNumber, Cond.instanceMethod yX3_readNumber, Cond.selects RX3 yX3_readNumber yX3_readNumber, Cond.code yX3_readNumber cX3_readNumber 3 (some .int), Cond.methodLink RX3 71 yX5_digitAt, Cond.instanceMethod yX5_digitAt, Cond.selects RX5 yX5_digitAt yX5_digitAt, Cond.code yX5_digitAt cX5_digitAt 2 (some .int), Cond.methodLink RX3 41 yX3_step]
def wsX6_read_r3 : List Cond := [Cond.instanceMethod yX3_step, Cond.selects RX3 yX3_step yX3_step, Cond.code yX3_step cX3_step 3 none, Cond.methodLink RX6 65 yX0_keep, Cond.instanceMethod yX0_keep, Cond.selects RX0 yX0_keep yX0_keep, Cond.initialized RX0, Cond.code yX0_keep cX0_keep 2 none, Cond.fieldLink RX0 18 "PricedPairs$History" "size" "I", Cond.fieldLink RX0 11 "PricedPairs$History" "states" "[LPricedPairs$Table;", Cond.methodLink RX0 22 yX0_dropOldest, Cond.instanceMethod yX0_dropOldest, Cond.selects RX0 yX0_dropOldest yX0_dropOldest, Cond.code yX0_dropOldest cX0_dropOldest 3 none, Cond.methodLink RX0 25 yX4_copyFrom, Cond.instanceMethod yX4_copyFrom, Cond.selects RX4 yX4_copyFrom yX4_copyFrom, Cond.initialized RX4, Cond.code yX4_copyFrom cX4_copyFrom 4 none, Cond.fieldLink RX4 20 "PricedPairs$Table" "workers" "I", Cond.fieldLink RX4 24 "PricedPairs$Table" "tasks" "I", Cond.fieldLink RX4 9 "PricedPairs$Table" "idleCosts" "[I", Cond.fieldLink RX4 17 "PricedPairs$Table" "costs" "[[I", Cond.methodLink RX6 210 yX4_copyFrom]
def wsX6_read_r4 : List Cond := [Cond.methodLink RX6 121 yX1_leastTotal, Cond.instanceMethod yX1_leastTotal, Cond.selects RX1 yX1_leastTotal yX1_leastTotal, Cond.initialized RX1, Cond.code yX1_leastTotal cX1_leastTotal 1 (some .int), Cond.fieldLink RX1 9 "PricedPairs$Plans" "table" "LPricedPairs$Table;", Cond.methodLink RX1 24 yX4_allWorkers, Cond.instanceMethod yX4_allWorkers, Cond.selects RX4 yX4_allWorkers yX4_allWorkers, Cond.code yX4_allWorkers cX4_allWorkers 1 (some .int), Cond.methodLink RX1 30 yX1_leastTotalOf, Cond.instanceMethod yX1_leastTotalOf, Cond.selects RX1 yX1_leastTotalOf yX1_leastTotalOf, Cond.code yX1_leastTotalOf cX1_leastTotalOf 2 (some .int), Cond.fieldLink RX1 21 "PricedPairs$Plans" "least" "[[I", Cond.methodLink RX1 34 yX1_weigh, Cond.instanceMethod yX1_weigh, Cond.selects RX1 yX1_weigh yX1_weigh, Cond.code yX1_weigh cX1_weigh 6 none, Cond.fieldLink RX1 38 "PricedPairs$Table" "tasks" "I", Cond.fieldLink RX1 42 "PricedPairs$Table" "workers" "I", Cond.methodLink RX1 45 yX1_leastFrom, Cond.instanceMethod yX1_leastFrom, Cond.selects RX1 yX1_leastFrom yX1_leastFrom]
def wsX6_read_r5 : List Cond := [Cond.code yX1_leastFrom cX1_leastFrom 5 (some .int), Cond.fieldLink RX1 49 "PricedPairs$Table" "idleCosts" "[I", Cond.methodLink RX1 56 Lib.Math.min.name, Cond.static Lib.Math.min.name, Cond.initialized "java/lang/Math", Cond.code Lib.Math.min.name Lib.Math.min.code 2 (some .int), Cond.methodLink RX1 52 yX1_totalFrom, Cond.instanceMethod yX1_totalFrom, Cond.selects RX1 yX1_totalFrom yX1_totalFrom, Cond.code yX1_totalFrom cX1_totalFrom 5 (some .int), Cond.fieldLink RX1 61 "PricedPairs$Table" "costs" "[[I", Cond.constant RX1 64 (1000000)]
def wsX6_read : List Cond := .code yX6_read cX6_read 1 (some .int) :: ((wsX6_read_r1 ++ (wsX6_read_r2 ++ (wsX6_read_r3 ++ (wsX6_read_r4 ++ wsX6_read_r5)))) ++ wsX60 ++ wsX30 ++ wsX40 ++ wsX50 ++ wsX00 ++ wsX10)
def wsJ9_max_7cf53 : List Cond := .code yJ9_max_7cf53 cJ9_max_7cf53 2 (some .int) :: ([])
def wsJ9_min_7cf53 : List Cond := .code yJ9_min_7cf53 cJ9_min_7cf53 2 (some .int) :: ([])
def wsL_cell : List Cond := .code yL_cell cL_cell 2 (some .int) :: ([.constant RL 7 (40503)])
def wsL_low : List Cond := .code yL_low cL_low 2 (some .int) :: ([.constant RL 8 (2147483647)])
def wsL_reads_r1 : List Cond := [Cond.methodLink RL 9 yX6_clearText, Cond.instanceMethod yX6_clearText, Cond.selects RX6 yX6_clearText yX6_clearText, Cond.initialized RX6, Cond.code yX6_clearText cX6_clearText 2 (some .int), Cond.fieldLink RX6 44 "PricedPairs" "text" "LPricedPairs$Text;", Cond.fieldLink RX6 188 "PricedPairs$Text" "length" "I", Cond.methodLink RL 15 yX6_type, Cond.instanceMethod yX6_type, Cond.selects RX6 yX6_type yX6_type, Cond.code yX6_type cX6_type 2 (some .int), Cond.methodLink RX6 194 yX5_append, Cond.instanceMethod yX5_append, Cond.selects RX5 yX5_append yX5_append, Cond.initialized RX5, Cond.code yX5_append cX5_append 2 none, Cond.fieldLink RX5 9 "PricedPairs$Text" "signs" "[C", Cond.fieldLink RX5 15 "PricedPairs$Text" "length" "I", Cond.methodLink RL 19 yX6_read, Cond.instanceMethod yX6_read, Cond.selects RX6 yX6_read yX6_read, Cond.code yX6_read cX6_read 1 (some .int), Cond.fieldLink RX6 53 "PricedPairs" "reader" "LPricedPairs$Reader;", Cond.fieldLink RX6 201 "PricedPairs$Reader" "reason" "I"]
def wsL_reads_r2 : List Cond := [Cond.fieldLink RX6 19 "PricedPairs" "history" "LPricedPairs$History;", Cond.fieldLink RX6 10 "PricedPairs" "table" "LPricedPairs$Table;", Cond.fieldLink RX6 207 "PricedPairs$Reader" "found" "LPricedPairs$Table;", Cond.fieldLink RX6 28 "PricedPairs" "plans" "LPricedPairs$Plans;", Cond.methodLink RX6 198 yX3_readText, Cond.instanceMethod yX3_readText, Cond.selects RX3 yX3_readText yX3_readText, Cond.initialized RX3, Cond.code yX3_readText cX3_readText 3 none, Cond.fieldLink RX3 22 "PricedPairs$Reader" "place" "I", Cond.fieldLink RX3 26 "PricedPairs$Reader" "reason" "I", Cond.fieldLink RX3 18 "PricedPairs$Reader" "found" "LPricedPairs$Table;", Cond.fieldLink RX3 33 "PricedPairs$Table" "workers" "I", Cond.fieldLink RX3 9 "PricedPairs$Reader" "text" "LPricedPairs$Text;", Cond.fieldLink RX3 36 "PricedPairs$Text" "length" "I", Cond.methodLink RX3 29 yX3_readRow, Cond.instanceMethod yX3_readRow, Cond.selects RX3 yX3_readRow yX3_readRow, Cond.code yX3_readRow cX3_readRow 3 none, Cond.fieldLink RX3 49 "PricedPairs$Table" "tasks" "I", Cond.fieldLink RX3 52 "PricedPairs$Table" "idleCosts" "[I", Cond.methodLink RX3 45 yX3_readEntries, Cond.instanceMethod yX3_readEntries, Cond.selects RX3 yX3_readEntries yX3_readEntries]
def wsL_reads_r3 : List Cond := [Cond.code yX3_readEntries cX3_readEntries 5 (some .int), Cond.fieldLink RX3 60 "PricedPairs$Table" "costs" "[[I", Cond.methodLink RX3 64 yX3_readEntry, Cond.instanceMethod yX3_readEntry, Cond.selects RX3 yX3_readEntry yX3_readEntry, Cond.code yX3_readEntry cX3_readEntry 1 (some .int), Cond.methodLink RX3 67 yX5_isAt, Cond.instanceMethod yX5_isAt, Cond.selects RX5 yX5_isAt yX5_isAt, Cond.code yX5_isAt cX5_isAt 3 (some .boolean), Cond.methodLink RX3 56 yX3_readNumber, Cond.instanceMethod yX3_readNumber, Cond.selects RX3 yX3_readNumber yX3_readNumber, Cond.code yX3_readNumber cX3_readNumber 3 (some .int), Cond.methodLink RX3 71 yX5_digitAt, Cond.instanceMethod yX5_digitAt, Cond.selects RX5 yX5_digitAt yX5_digitAt, Cond.code yX5_digitAt cX5_digitAt 2 (some .int), Cond.methodLink RX3 41 yX3_step, Cond.instanceMethod yX3_step, Cond.selects RX3 yX3_step yX3_step, Cond.code yX3_step cX3_step 3 none, Cond.methodLink RX6 65 yX0_keep, Cond.instanceMethod yX0_keep]
def wsL_reads_r4 : List Cond := [Cond.selects RX0 yX0_keep yX0_keep, Cond.initialized RX0, Cond.code yX0_keep cX0_keep 2 none, Cond.fieldLink RX0 18 "PricedPairs$History" "size" "I", Cond.fieldLink RX0 11 "PricedPairs$History" "states" "[LPricedPairs$Table;", Cond.methodLink RX0 22 yX0_dropOldest, Cond.instanceMethod yX0_dropOldest, Cond.selects RX0 yX0_dropOldest yX0_dropOldest, Cond.code yX0_dropOldest cX0_dropOldest 3 none, Cond.methodLink RX0 25 yX4_copyFrom, Cond.instanceMethod yX4_copyFrom, Cond.selects RX4 yX4_copyFrom yX4_copyFrom, Cond.initialized RX4, Cond.code yX4_copyFrom cX4_copyFrom 4 none, Cond.fieldLink RX4 20 "PricedPairs$Table" "workers" "I", Cond.fieldLink RX4 24 "PricedPairs$Table" "tasks" "I", Cond.fieldLink RX4 9 "PricedPairs$Table" "idleCosts" "[I", Cond.fieldLink RX4 17 "PricedPairs$Table" "costs" "[[I", Cond.methodLink RX6 210 yX4_copyFrom, Cond.methodLink RX6 121 yX1_leastTotal, Cond.instanceMethod yX1_leastTotal, Cond.selects RX1 yX1_leastTotal yX1_leastTotal, Cond.initialized RX1, Cond.code yX1_leastTotal cX1_leastTotal 1 (some .int)]
def wsL_reads_r5 : List Cond := [Cond.fieldLink RX1 9 "PricedPairs$Plans" "table" "LPricedPairs$Table;", Cond.methodLink RX1 24 yX4_allWorkers, Cond.instanceMethod yX4_allWorkers, Cond.selects RX4 yX4_allWorkers yX4_allWorkers, Cond.code yX4_allWorkers cX4_allWorkers 1 (some .int), Cond.methodLink RX1 30 yX1_leastTotalOf, Cond.instanceMethod yX1_leastTotalOf, Cond.selects RX1 yX1_leastTotalOf yX1_leastTotalOf, Cond.code yX1_leastTotalOf cX1_leastTotalOf 2 (some .int), Cond.fieldLink RX1 21 "PricedPairs$Plans" "least" "[[I", Cond.methodLink RX1 34 yX1_weigh, Cond.instanceMethod yX1_weigh, Cond.selects RX1 yX1_weigh yX1_weigh, Cond.code yX1_weigh cX1_weigh 6 none, Cond.fieldLink RX1 38 "PricedPairs$Table" "tasks" "I", Cond.fieldLink RX1 42 "PricedPairs$Table" "workers" "I", Cond.methodLink RX1 45 yX1_leastFrom, Cond.instanceMethod yX1_leastFrom, Cond.selects RX1 yX1_leastFrom yX1_leastFrom, Cond.code yX1_leastFrom cX1_leastFrom 5 (some .int), Cond.fieldLink RX1 49 "PricedPairs$Table" "idleCosts" "[I", Cond.methodLink RX1 56 Lib.Math.min.name, Cond.static Lib.Math.min.name, Cond.initialized "java/lang/Math"]
def wsL_reads_r6 : List Cond := [Cond.code Lib.Math.min.name Lib.Math.min.code 2 (some .int), Cond.methodLink RX1 52 yX1_totalFrom, Cond.instanceMethod yX1_totalFrom, Cond.selects RX1 yX1_totalFrom yX1_totalFrom, Cond.code yX1_totalFrom cX1_totalFrom 5 (some .int), Cond.fieldLink RX1 61 "PricedPairs$Table" "costs" "[[I", Cond.constant RX1 64 (1000000), Cond.methodLink RL 22 yX6_total, Cond.instanceMethod yX6_total, Cond.selects RX6 yX6_total yX6_total, Cond.code yX6_total cX6_total 1 (some .int), Cond.methodLink RL 25 yX6_fault, Cond.instanceMethod yX6_fault, Cond.selects RX6 yX6_fault yX6_fault, Cond.code yX6_fault cX6_fault 2 (some .int), Cond.fieldLink RX6 204 "PricedPairs$Reader" "place" "I"]
def wsL_reads : List Cond := .code yL_reads cL_reads 15 (some .boolean) :: ((wsL_reads_r1 ++ (wsL_reads_r2 ++ (wsL_reads_r3 ++ (wsL_reads_r4 ++ (wsL_reads_r5 ++ wsL_reads_r6))))) ++ wsX60 ++ wsX50 ++ wsX30 ++ wsX40 ++ wsX00 ++ wsX10)
def wsL_tables_r1 : List Cond := [Cond.methodLink RL 28 yX6_worker, Cond.instanceMethod yX6_worker, Cond.selects RX6 yX6_worker yX6_worker, Cond.initialized RX6, Cond.code yX6_worker cX6_worker 2 (some .int), Cond.fieldLink RX6 10 "PricedPairs" "table" "LPricedPairs$Table;", Cond.fieldLink RX6 61 "PricedPairs$Table" "workers" "I", Cond.fieldLink RX6 19 "PricedPairs" "history" "LPricedPairs$History;", Cond.methodLink RX6 57 yX6_isCost, Cond.static yX6_isCost, Cond.code yX6_isCost cX6_isCost 1 (some .boolean), Cond.methodLink RX6 65 yX0_keep, Cond.instanceMethod yX0_keep, Cond.selects RX0 yX0_keep yX0_keep, Cond.initialized RX0, Cond.code yX0_keep cX0_keep 2 none, Cond.fieldLink RX0 18 "PricedPairs$History" "size" "I", Cond.fieldLink RX0 11 "PricedPairs$History" "states" "[LPricedPairs$Table;", Cond.methodLink RX0 22 yX0_dropOldest, Cond.instanceMethod yX0_dropOldest, Cond.selects RX0 yX0_dropOldest yX0_dropOldest, Cond.code yX0_dropOldest cX0_dropOldest 3 none, Cond.methodLink RX0 25 yX4_copyFrom, Cond.instanceMethod yX4_copyFrom]
def wsL_tables_r2 : List Cond := [Cond.selects RX4 yX4_copyFrom yX4_copyFrom, Cond.initialized RX4, Cond.code yX4_copyFrom cX4_copyFrom 4 none, Cond.fieldLink RX4 20 "PricedPairs$Table" "workers" "I", Cond.fieldLink RX4 24 "PricedPairs$Table" "tasks" "I", Cond.fieldLink RX4 9 "PricedPairs$Table" "idleCosts" "[I", Cond.fieldLink RX4 17 "PricedPairs$Table" "costs" "[[I", Cond.methodLink RX6 68 yX4_addWorker, Cond.instanceMethod yX4_addWorker, Cond.selects RX4 yX4_addWorker yX4_addWorker, Cond.code yX4_addWorker cX4_addWorker 3 none, Cond.methodLink RL 31 yX6_task, Cond.instanceMethod yX6_task, Cond.selects RX6 yX6_task yX6_task, Cond.code yX6_task cX6_task 1 (some .int), Cond.fieldLink RX6 72 "PricedPairs$Table" "tasks" "I", Cond.methodLink RX6 75 yX4_addTask, Cond.instanceMethod yX4_addTask, Cond.selects RX4 yX4_addTask yX4_addTask, Cond.code yX4_addTask cX4_addTask 2 none, Cond.methodLink RL 34 yX6_dropWorker, Cond.instanceMethod yX6_dropWorker, Cond.selects RX6 yX6_dropWorker yX6_dropWorker, Cond.code yX6_dropWorker cX6_dropWorker 2 (some .int)]
def wsL_tables_r3 : List Cond := [Cond.methodLink RX6 78 yX6_isWorker, Cond.instanceMethod yX6_isWorker, Cond.selects RX6 yX6_isWorker yX6_isWorker, Cond.code yX6_isWorker cX6_isWorker 2 (some .boolean), Cond.methodLink RX6 81 yX4_removeWorker, Cond.instanceMethod yX4_removeWorker, Cond.selects RX4 yX4_removeWorker yX4_removeWorker, Cond.code yX4_removeWorker cX4_removeWorker 4 none, Cond.methodLink RL 37 yX6_dropTask, Cond.instanceMethod yX6_dropTask, Cond.selects RX6 yX6_dropTask yX6_dropTask, Cond.code yX6_dropTask cX6_dropTask 2 (some .int), Cond.methodLink RX6 84 yX6_isTask, Cond.instanceMethod yX6_isTask, Cond.selects RX6 yX6_isTask yX6_isTask, Cond.code yX6_isTask cX6_isTask 2 (some .boolean), Cond.methodLink RX6 87 yX4_removeTask, Cond.instanceMethod yX4_removeTask, Cond.selects RX4 yX4_removeTask yX4_removeTask, Cond.code yX4_removeTask cX4_removeTask 4 none]
def wsL_tables : List Cond := .code yL_tables cL_tables 8 (some .boolean) :: ((wsL_tables_r1 ++ (wsL_tables_r2 ++ wsL_tables_r3)) ++ wsX60 ++ wsX40 ++ wsX00)
def wsL_acts_r1 : List Cond := [Cond.constant RL 40 (10000000), Cond.constantLong RL 55 (9999), Cond.constant RL 70 (100000), Cond.methodLink RL 41 yL_low, Cond.static yL_low, Cond.initialized RL, Cond.code yL_low cL_low 2 (some .int), Cond.constant RL 8 (2147483647), Cond.methodLink RL 47 yL_tables, Cond.static yL_tables, Cond.code yL_tables cL_tables 8 (some .boolean), Cond.methodLink RL 28 yX6_worker, Cond.instanceMethod yX6_worker, Cond.selects RX6 yX6_worker yX6_worker, Cond.initialized RX6, Cond.code yX6_worker cX6_worker 2 (some .int), Cond.fieldLink RX6 10 "PricedPairs" "table" "LPricedPairs$Table;", Cond.fieldLink RX6 61 "PricedPairs$Table" "workers" "I", Cond.fieldLink RX6 19 "PricedPairs" "history" "LPricedPairs$History;", Cond.methodLink RX6 57 yX6_isCost, Cond.static yX6_isCost, Cond.code yX6_isCost cX6_isCost 1 (some .boolean), Cond.methodLink RX6 65 yX0_keep, Cond.instanceMethod yX0_keep]
def wsL_acts_r2 : List Cond := [Cond.selects RX0 yX0_keep yX0_keep, Cond.initialized RX0, Cond.code yX0_keep cX0_keep 2 none, Cond.fieldLink RX0 18 "PricedPairs$History" "size" "I", Cond.fieldLink RX0 11 "PricedPairs$History" "states" "[LPricedPairs$Table;", Cond.methodLink RX0 22 yX0_dropOldest, Cond.instanceMethod yX0_dropOldest, Cond.selects RX0 yX0_dropOldest yX0_dropOldest, Cond.code yX0_dropOldest cX0_dropOldest 3 none, Cond.methodLink RX0 25 yX4_copyFrom, Cond.instanceMethod yX4_copyFrom, Cond.selects RX4 yX4_copyFrom yX4_copyFrom, Cond.initialized RX4, Cond.code yX4_copyFrom cX4_copyFrom 4 none, Cond.fieldLink RX4 20 "PricedPairs$Table" "workers" "I", Cond.fieldLink RX4 24 "PricedPairs$Table" "tasks" "I", Cond.fieldLink RX4 9 "PricedPairs$Table" "idleCosts" "[I", Cond.fieldLink RX4 17 "PricedPairs$Table" "costs" "[[I", Cond.methodLink RX6 68 yX4_addWorker, Cond.instanceMethod yX4_addWorker, Cond.selects RX4 yX4_addWorker yX4_addWorker, Cond.code yX4_addWorker cX4_addWorker 3 none, Cond.methodLink RL 31 yX6_task, Cond.instanceMethod yX6_task]
def wsL_acts_r3 : List Cond := [Cond.selects RX6 yX6_task yX6_task, Cond.code yX6_task cX6_task 1 (some .int), Cond.fieldLink RX6 72 "PricedPairs$Table" "tasks" "I", Cond.methodLink RX6 75 yX4_addTask, Cond.instanceMethod yX4_addTask, Cond.selects RX4 yX4_addTask yX4_addTask, Cond.code yX4_addTask cX4_addTask 2 none, Cond.methodLink RL 34 yX6_dropWorker, Cond.instanceMethod yX6_dropWorker, Cond.selects RX6 yX6_dropWorker yX6_dropWorker, Cond.code yX6_dropWorker cX6_dropWorker 2 (some .int), Cond.methodLink RX6 78 yX6_isWorker, Cond.instanceMethod yX6_isWorker, Cond.selects RX6 yX6_isWorker yX6_isWorker, Cond.code yX6_isWorker cX6_isWorker 2 (some .boolean), Cond.methodLink RX6 81 yX4_removeWorker, Cond.instanceMethod yX4_removeWorker, Cond.selects RX4 yX4_removeWorker yX4_removeWorker, Cond.code yX4_removeWorker cX4_removeWorker 4 none, Cond.methodLink RL 37 yX6_dropTask, Cond.instanceMethod yX6_dropTask, Cond.selects RX6 yX6_dropTask yX6_dropTask, Cond.code yX6_dropTask cX6_dropTask 2 (some .int), Cond.methodLink RX6 84 yX6_isTask]
def wsL_acts_r4 : List Cond := [Cond.instanceMethod yX6_isTask, Cond.selects RX6 yX6_isTask yX6_isTask, Cond.code yX6_isTask cX6_isTask 2 (some .boolean), Cond.methodLink RX6 87 yX4_removeTask, Cond.instanceMethod yX4_removeTask, Cond.selects RX4 yX4_removeTask yX4_removeTask, Cond.code yX4_removeTask cX4_removeTask 4 none, Cond.methodLink RL 51 yL_reads, Cond.static yL_reads, Cond.code yL_reads cL_reads 15 (some .boolean), Cond.methodLink RL 9 yX6_clearText, Cond.instanceMethod yX6_clearText, Cond.selects RX6 yX6_clearText yX6_clearText, Cond.code yX6_clearText cX6_clearText 2 (some .int), Cond.fieldLink RX6 44 "PricedPairs" "text" "LPricedPairs$Text;", Cond.fieldLink RX6 188 "PricedPairs$Text" "length" "I", Cond.methodLink RL 15 yX6_type, Cond.instanceMethod yX6_type, Cond.selects RX6 yX6_type yX6_type, Cond.code yX6_type cX6_type 2 (some .int), Cond.methodLink RX6 194 yX5_append, Cond.instanceMethod yX5_append, Cond.selects RX5 yX5_append yX5_append, Cond.initialized RX5]
def wsL_acts_r5 : List Cond := [Cond.code yX5_append cX5_append 2 none, Cond.fieldLink RX5 9 "PricedPairs$Text" "signs" "[C", Cond.fieldLink RX5 15 "PricedPairs$Text" "length" "I", Cond.methodLink RL 19 yX6_read, Cond.instanceMethod yX6_read, Cond.selects RX6 yX6_read yX6_read, Cond.code yX6_read cX6_read 1 (some .int), Cond.fieldLink RX6 53 "PricedPairs" "reader" "LPricedPairs$Reader;", Cond.fieldLink RX6 201 "PricedPairs$Reader" "reason" "I", Cond.fieldLink RX6 207 "PricedPairs$Reader" "found" "LPricedPairs$Table;", Cond.fieldLink RX6 28 "PricedPairs" "plans" "LPricedPairs$Plans;", Cond.methodLink RX6 198 yX3_readText, Cond.instanceMethod yX3_readText, Cond.selects RX3 yX3_readText yX3_readText, Cond.initialized RX3, Cond.code yX3_readText cX3_readText 3 none, Cond.fieldLink RX3 22 "PricedPairs$Reader" "place" "I", Cond.fieldLink RX3 26 "PricedPairs$Reader" "reason" "I", Cond.fieldLink RX3 18 "PricedPairs$Reader" "found" "LPricedPairs$Table;", Cond.fieldLink RX3 33 "PricedPairs$Table" "workers" "I", Cond.fieldLink RX3 9 "PricedPairs$Reader" "text" "LPricedPairs$Text;", Cond.fieldLink RX3 36 "PricedPairs$Text" "length" "I", Cond.methodLink RX3 29 yX3_readRow, Cond.instanceMethod yX3_readRow]
def wsL_acts_r6 : List Cond := [Cond.selects RX3 yX3_readRow yX3_readRow, Cond.code yX3_readRow cX3_readRow 3 none, Cond.fieldLink RX3 49 "PricedPairs$Table" "tasks" "I", Cond.fieldLink RX3 52 "PricedPairs$Table" "idleCosts" "[I", Cond.methodLink RX3 45 yX3_readEntries, Cond.instanceMethod yX3_readEntries, Cond.selects RX3 yX3_readEntries yX3_readEntries, Cond.code yX3_readEntries cX3_readEntries 5 (some .int), Cond.fieldLink RX3 60 "PricedPairs$Table" "costs" "[[I", Cond.methodLink RX3 64 yX3_readEntry, Cond.instanceMethod yX3_readEntry, Cond.selects RX3 yX3_readEntry yX3_readEntry, Cond.code yX3_readEntry cX3_readEntry 1 (some .int), Cond.methodLink RX3 67 yX5_isAt, Cond.instanceMethod yX5_isAt, Cond.selects RX5 yX5_isAt yX5_isAt, Cond.code yX5_isAt cX5_isAt 3 (some .boolean), Cond.methodLink RX3 56 yX3_readNumber, Cond.instanceMethod yX3_readNumber, Cond.selects RX3 yX3_readNumber yX3_readNumber, Cond.code yX3_readNumber cX3_readNumber 3 (some .int), Cond.methodLink RX3 71 yX5_digitAt, Cond.instanceMethod yX5_digitAt, Cond.selects RX5 yX5_digitAt yX5_digitAt]
def wsL_acts_r7 : List Cond := [Cond.code yX5_digitAt cX5_digitAt 2 (some .int), Cond.methodLink RX3 41 yX3_step, Cond.instanceMethod yX3_step, Cond.selects RX3 yX3_step yX3_step, Cond.code yX3_step cX3_step 3 none, Cond.methodLink RX6 210 yX4_copyFrom, Cond.methodLink RX6 121 yX1_leastTotal, Cond.instanceMethod yX1_leastTotal, Cond.selects RX1 yX1_leastTotal yX1_leastTotal, Cond.initialized RX1, Cond.code yX1_leastTotal cX1_leastTotal 1 (some .int), Cond.fieldLink RX1 9 "PricedPairs$Plans" "table" "LPricedPairs$Table;", Cond.methodLink RX1 24 yX4_allWorkers, Cond.instanceMethod yX4_allWorkers, Cond.selects RX4 yX4_allWorkers yX4_allWorkers, Cond.code yX4_allWorkers cX4_allWorkers 1 (some .int), Cond.methodLink RX1 30 yX1_leastTotalOf, Cond.instanceMethod yX1_leastTotalOf, Cond.selects RX1 yX1_leastTotalOf yX1_leastTotalOf, Cond.code yX1_leastTotalOf cX1_leastTotalOf 2 (some .int), Cond.fieldLink RX1 21 "PricedPairs$Plans" "least" "[[I", Cond.methodLink RX1 34 yX1_weigh, Cond.instanceMethod yX1_weigh, Cond.selects RX1 yX1_weigh yX1_weigh]
def wsL_acts_r8 : List Cond := [Cond.code yX1_weigh cX1_weigh 6 none, Cond.fieldLink RX1 38 "PricedPairs$Table" "tasks" "I", Cond.fieldLink RX1 42 "PricedPairs$Table" "workers" "I", Cond.methodLink RX1 45 yX1_leastFrom, Cond.instanceMethod yX1_leastFrom, Cond.selects RX1 yX1_leastFrom yX1_leastFrom, Cond.code yX1_leastFrom cX1_leastFrom 5 (some .int), Cond.fieldLink RX1 49 "PricedPairs$Table" "idleCosts" "[I", Cond.methodLink RX1 56 Lib.Math.min.name, Cond.static Lib.Math.min.name, Cond.initialized "java/lang/Math", Cond.code Lib.Math.min.name Lib.Math.min.code 2 (some .int), Cond.methodLink RX1 52 yX1_totalFrom, Cond.instanceMethod yX1_totalFrom, Cond.selects RX1 yX1_totalFrom yX1_totalFrom, Cond.code yX1_totalFrom cX1_totalFrom 5 (some .int), Cond.fieldLink RX1 61 "PricedPairs$Table" "costs" "[[I", Cond.constant RX1 64 (1000000), Cond.methodLink RL 22 yX6_total, Cond.instanceMethod yX6_total, Cond.selects RX6 yX6_total yX6_total, Cond.code yX6_total cX6_total 1 (some .int), Cond.methodLink RL 25 yX6_fault, Cond.instanceMethod yX6_fault]
def wsL_acts_r9 : List Cond := [Cond.selects RX6 yX6_fault yX6_fault, Cond.code yX6_fault cX6_fault 2 (some .int), Cond.fieldLink RX6 204 "PricedPairs$Reader" "place" "I", Cond.methodLink RL 57 yX6_times, Cond.instanceMethod yX6_times, Cond.selects RX6 yX6_times yX6_times, Cond.code yX6_times cX6_times 5 (some .int), Cond.constant RX6 103 (2000000000), Cond.constantLong RX6 108 (9999), Cond.methodLink RX6 104 yX4_greatestCost, Cond.instanceMethod yX4_greatestCost, Cond.selects RX4 yX4_greatestCost yX4_greatestCost, Cond.code yX4_greatestCost cX4_greatestCost 4 (some .int), Cond.methodLink RX4 27 Lib.Math.max.name, Cond.static Lib.Math.max.name, Cond.code Lib.Math.max.name Lib.Math.max.code 2 (some .int), Cond.methodLink RX6 110 yX4_multiplyCosts, Cond.instanceMethod yX4_multiplyCosts, Cond.selects RX4 yX4_multiplyCosts yX4_multiplyCosts, Cond.code yX4_multiplyCosts cX4_multiplyCosts 4 none, Cond.methodLink RX4 33 yX4_isBarred, Cond.instanceMethod yX4_isBarred, Cond.selects RX4 yX4_isBarred yX4_isBarred, Cond.code yX4_isBarred cX4_isBarred 3 (some .boolean)]
def wsL_acts_r10 : List Cond := [Cond.methodLink RL 60 yX6_idle, Cond.instanceMethod yX6_idle, Cond.selects RX6 yX6_idle yX6_idle, Cond.code yX6_idle cX6_idle 4 (some .int), Cond.fieldLink RX6 99 "PricedPairs$Table" "idleCosts" "[I", Cond.methodLink RL 63 yX6_bar, Cond.instanceMethod yX6_bar, Cond.selects RX6 yX6_bar yX6_bar, Cond.code yX6_bar cX6_bar 3 (some .int), Cond.methodLink RX6 95 yX4_isBarred, Cond.methodLink RX6 91 yX6_changePair, Cond.instanceMethod yX6_changePair, Cond.selects RX6 yX6_changePair yX6_changePair, Cond.code yX6_changePair cX6_changePair 5 (some .int), Cond.fieldLink RX6 213 "PricedPairs$Table" "costs" "[[I", Cond.methodLink RL 66 yX6_cost, Cond.instanceMethod yX6_cost, Cond.selects RX6 yX6_cost yX6_cost, Cond.code yX6_cost cX6_cost 4 (some .int), Cond.constant RX6 90 (100000)]
def wsL_acts : List Cond := .code yL_acts cL_acts 12 (some .boolean) :: ((wsL_acts_r1 ++ (wsL_acts_r2 ++ (wsL_acts_r3 ++ (wsL_acts_r4 ++ (wsL_acts_r5 ++ (wsL_acts_r6 ++ (wsL_acts_r7 ++ (wsL_acts_r8 ++ (wsL_acts_r9 ++ wsL_acts_r10))))))))) ++ wsX60 ++ wsX40 ++ wsX00 ++ wsX50 ++ wsX30 ++ wsX10)
def wsL_isProved_r1 : List Cond := [Cond.arrayClass .int, Cond.methodLink RL 22 yX6_total, Cond.instanceMethod yX6_total, Cond.selects RX6 yX6_total yX6_total, Cond.initialized RX6, Cond.code yX6_total cX6_total 1 (some .int), Cond.fieldLink RX6 28 "PricedPairs" "plans" "LPricedPairs$Plans;", Cond.methodLink RX6 121 yX1_leastTotal, Cond.instanceMethod yX1_leastTotal, Cond.selects RX1 yX1_leastTotal yX1_leastTotal, Cond.initialized RX1, Cond.code yX1_leastTotal cX1_leastTotal 1 (some .int), Cond.fieldLink RX1 9 "PricedPairs$Plans" "table" "LPricedPairs$Table;", Cond.methodLink RX1 24 yX4_allWorkers, Cond.instanceMethod yX4_allWorkers, Cond.selects RX4 yX4_allWorkers yX4_allWorkers, Cond.initialized RX4, Cond.code yX4_allWorkers cX4_allWorkers 1 (some .int), Cond.fieldLink RX4 20 "PricedPairs$Table" "workers" "I", Cond.methodLink RX1 30 yX1_leastTotalOf, Cond.instanceMethod yX1_leastTotalOf, Cond.selects RX1 yX1_leastTotalOf yX1_leastTotalOf, Cond.code yX1_leastTotalOf cX1_leastTotalOf 2 (some .int), Cond.fieldLink RX1 21 "PricedPairs$Plans" "least" "[[I"]
def wsL_isProved_r2 : List Cond := [Cond.methodLink RX1 34 yX1_weigh, Cond.instanceMethod yX1_weigh, Cond.selects RX1 yX1_weigh yX1_weigh, Cond.code yX1_weigh cX1_weigh 6 none, Cond.fieldLink RX1 38 "PricedPairs$Table" "tasks" "I", Cond.fieldLink RX1 42 "PricedPairs$Table" "workers" "I", Cond.methodLink RX1 45 yX1_leastFrom, Cond.instanceMethod yX1_leastFrom, Cond.selects RX1 yX1_leastFrom yX1_leastFrom, Cond.code yX1_leastFrom cX1_leastFrom 5 (some .int), Cond.fieldLink RX1 49 "PricedPairs$Table" "idleCosts" "[I", Cond.methodLink RX1 56 Lib.Math.min.name, Cond.static Lib.Math.min.name, Cond.initialized "java/lang/Math", Cond.code Lib.Math.min.name Lib.Math.min.code 2 (some .int), Cond.methodLink RX1 52 yX1_totalFrom, Cond.instanceMethod yX1_totalFrom, Cond.selects RX1 yX1_totalFrom yX1_totalFrom, Cond.code yX1_totalFrom cX1_totalFrom 5 (some .int), Cond.fieldLink RX1 61 "PricedPairs$Table" "costs" "[[I", Cond.constant RX1 64 (1000000), Cond.methodLink RL 71 yX6_proof, Cond.instanceMethod yX6_proof, Cond.selects RX6 yX6_proof yX6_proof]
def wsL_isProved_r3 : List Cond := [Cond.code yX6_proof cX6_proof 1 (some .int), Cond.fieldLink RX6 37 "PricedPairs" "prices" "LPricedPairs$Prices;", Cond.methodLink RX6 137 yX2_findLeast, Cond.instanceMethod yX2_findLeast, Cond.selects RX2 yX2_findLeast yX2_findLeast, Cond.initialized RX2, Cond.code yX2_findLeast cX2_findLeast 5 none, Cond.fieldLink RX2 9 "PricedPairs$Prices" "table" "LPricedPairs$Table;", Cond.fieldLink RX2 23 "PricedPairs$Table" "tasks" "I", Cond.fieldLink RX2 19 "PricedPairs$Prices" "least" "[I", Cond.fieldLink RX2 15 "PricedPairs$Prices" "plans" "LPricedPairs$Plans;", Cond.fieldLink RX2 35 "PricedPairs$Table" "workers" "I", Cond.fieldLink RX2 49 "PricedPairs$Table" "costs" "[[I", Cond.methodLink RX2 53 Lib.Math.max.name, Cond.static Lib.Math.max.name, Cond.code Lib.Math.max.name Lib.Math.max.code 2 (some .int), Cond.methodLink RX2 29 yX1_leastTotal, Cond.methodLink RX2 38 yX4_allWorkersBut, Cond.instanceMethod yX4_allWorkersBut, Cond.selects RX4 yX4_allWorkersBut yX4_allWorkersBut, Cond.code yX4_allWorkersBut cX4_allWorkersBut 2 (some .int), Cond.methodLink RX4 37 yX4_allWorkers, Cond.methodLink RX2 42 yX1_leastTotalOf, Cond.methodLink RX2 45 yX4_isBarred]
def wsL_isProved_r4 : List Cond := [Cond.instanceMethod yX4_isBarred, Cond.selects RX4 yX4_isBarred yX4_isBarred, Cond.code yX4_isBarred cX4_isBarred 3 (some .boolean), Cond.fieldLink RX4 17 "PricedPairs$Table" "costs" "[[I", Cond.methodLink RX6 152 yX2_sumOfWorths, Cond.instanceMethod yX2_sumOfWorths, Cond.selects RX2 yX2_sumOfWorths yX2_sumOfWorths, Cond.code yX2_sumOfWorths cX2_sumOfWorths 3 (some .int), Cond.methodLink RX2 71 yX2_worthOf, Cond.instanceMethod yX2_worthOf, Cond.selects RX2 yX2_worthOf yX2_worthOf, Cond.code yX2_worthOf cX2_worthOf 4 (some .int), Cond.fieldLink RX2 65 "PricedPairs$Table" "idleCosts" "[I", Cond.methodLink RX2 68 Lib.Math.min.name, Cond.methodLink RX6 155 yX2_sumOfLeast, Cond.instanceMethod yX2_sumOfLeast, Cond.selects RX2 yX2_sumOfLeast yX2_sumOfLeast, Cond.code yX2_sumOfLeast cX2_sumOfLeast 3 (some .int), Cond.methodLink RL 74 yX6_price, Cond.instanceMethod yX6_price, Cond.selects RX6 yX6_price yX6_price, Cond.code yX6_price cX6_price 3 (some .int), Cond.fieldLink RX6 140 "PricedPairs$Prices" "least" "[I", Cond.methodLink RX6 84 yX6_isTask]
def wsL_isProved_r5 : List Cond := [Cond.instanceMethod yX6_isTask, Cond.selects RX6 yX6_isTask yX6_isTask, Cond.code yX6_isTask cX6_isTask 2 (some .boolean), Cond.fieldLink RX6 10 "PricedPairs" "table" "LPricedPairs$Table;", Cond.fieldLink RX6 72 "PricedPairs$Table" "tasks" "I", Cond.methodLink RX6 134 yX2_greatestOf, Cond.instanceMethod yX2_greatestOf, Cond.selects RX2 yX2_greatestOf yX2_greatestOf, Cond.code yX2_greatestOf cX2_greatestOf 2 (some .int), Cond.methodLink RX2 59 yX1_lossWithoutTask, Cond.instanceMethod yX1_lossWithoutTask, Cond.selects RX1 yX1_lossWithoutTask yX1_lossWithoutTask, Cond.code yX1_lossWithoutTask cX1_lossWithoutTask 2 (some .int), Cond.methodLink RL 77 yX6_taskOf, Cond.instanceMethod yX6_taskOf, Cond.selects RX6 yX6_taskOf yX6_taskOf, Cond.code yX6_taskOf cX6_taskOf 3 (some .int), Cond.fieldLink RX6 128 "PricedPairs$Plans" "chosen" "[I", Cond.methodLink RX6 78 yX6_isWorker, Cond.instanceMethod yX6_isWorker, Cond.selects RX6 yX6_isWorker yX6_isWorker, Cond.code yX6_isWorker cX6_isWorker 2 (some .boolean), Cond.fieldLink RX6 61 "PricedPairs$Table" "workers" "I", Cond.methodLink RX6 125 yX1_chooseFirst]
def wsL_isProved_r6 : List Cond := [Cond.instanceMethod yX1_chooseFirst, Cond.selects RX1 yX1_chooseFirst yX1_chooseFirst, Cond.code yX1_chooseFirst cX1_chooseFirst 3 none, Cond.fieldLink RX1 68 "PricedPairs$Plans" "chosenTotal" "I", Cond.fieldLink RX1 15 "PricedPairs$Plans" "chosen" "[I", Cond.methodLink RX1 65 yX1_leastTotal, Cond.methodLink RX1 71 yX1_lowestBestTask, Cond.instanceMethod yX1_lowestBestTask, Cond.selects RX1 yX1_lowestBestTask yX1_lowestBestTask, Cond.code yX1_lowestBestTask cX1_lowestBestTask 4 (some .int), Cond.methodLink RL 80 yX6_workerOf, Cond.instanceMethod yX6_workerOf, Cond.selects RX6 yX6_workerOf yX6_workerOf, Cond.code yX6_workerOf cX6_workerOf 3 (some .int), Cond.methodLink RL 83 yX6_workerIs, Cond.instanceMethod yX6_workerIs, Cond.selects RX6 yX6_workerIs yX6_workerIs, Cond.code yX6_workerIs cX6_workerIs 3 (some .int), Cond.fieldLink RX6 99 "PricedPairs$Table" "idleCosts" "[I", Cond.methodLink RX6 143 yX4_allWorkersBut, Cond.methodLink RX6 131 yX1_leastTotalOf, Cond.methodLink RX6 146 yX2_worthOf, Cond.methodLink RX6 149 yX2_tightTasksOf, Cond.instanceMethod yX2_tightTasksOf]
def wsL_isProved_r7 : List Cond := [Cond.selects RX2 yX2_tightTasksOf yX2_tightTasksOf, Cond.code yX2_tightTasksOf cX2_tightTasksOf 5 (some .int), Cond.methodLink RL 86 yX6_count, Cond.instanceMethod yX6_count, Cond.selects RX6 yX6_count yX6_count, Cond.code yX6_count cX6_count 2 (some .int), Cond.fieldLink RX6 19 "PricedPairs" "history" "LPricedPairs$History;", Cond.fieldLink RX6 185 "PricedPairs$History" "size" "I", Cond.fieldLink RX6 44 "PricedPairs" "text" "LPricedPairs$Text;", Cond.fieldLink RX6 188 "PricedPairs$Text" "length" "I", Cond.methodLink RX6 173 yX4_openPairs, Cond.instanceMethod yX4_openPairs, Cond.selects RX4 yX4_openPairs yX4_openPairs, Cond.code yX4_openPairs cX4_openPairs 4 (some .int), Cond.fieldLink RX4 24 "PricedPairs$Table" "tasks" "I", Cond.methodLink RX4 33 yX4_isBarred, Cond.methodLink RX6 176 yX1_chosenPairs, Cond.instanceMethod yX1_chosenPairs, Cond.selects RX1 yX1_chosenPairs yX1_chosenPairs, Cond.code yX1_chosenPairs cX1_chosenPairs 3 (some .int), Cond.methodLink RX6 179 yX2_tightPairs, Cond.instanceMethod yX2_tightPairs, Cond.selects RX2 yX2_tightPairs yX2_tightPairs, Cond.code yX2_tightPairs cX2_tightPairs 3 (some .int)]
def wsL_isProved_r8 : List Cond := [Cond.methodLink RX2 74 yX2_tightTasksOf, Cond.methodLink RX2 77 yJ6_bitCount_0f7a4, Cond.static yJ6_bitCount_0f7a4, Cond.initialized RJ6, Cond.code yJ6_bitCount_0f7a4 cJ6_bitCount_0f7a4 1 (some .int), Cond.constant RJ6 265 (1431655765), Cond.constant RJ6 266 (858993459), Cond.constant RJ6 267 (252645135), Cond.methodLink RX6 182 yX2_sumOfGreatest, Cond.instanceMethod yX2_sumOfGreatest, Cond.selects RX2 yX2_sumOfGreatest yX2_sumOfGreatest, Cond.code yX2_sumOfGreatest cX2_sumOfGreatest 3 (some .int), Cond.methodLink RX2 62 yX2_greatestOf]
def wsL_isProved : List Cond := .code yL_isProved cL_isProved 17 (some .boolean) :: ((wsL_isProved_r1 ++ (wsL_isProved_r2 ++ (wsL_isProved_r3 ++ (wsL_isProved_r4 ++ (wsL_isProved_r5 ++ (wsL_isProved_r6 ++ (wsL_isProved_r7 ++ wsL_isProved_r8))))))) ++ wsX60 ++ wsX10 ++ wsX40 ++ wsX20 ++ wsX00 ++ wsX50)
def wsL_isSo_r1 : List Cond := [Cond.methodLink RL 83 yX6_workerIs, Cond.instanceMethod yX6_workerIs, Cond.selects RX6 yX6_workerIs yX6_workerIs, Cond.initialized RX6, Cond.code yX6_workerIs cX6_workerIs 3 (some .int), Cond.fieldLink RX6 28 "PricedPairs" "plans" "LPricedPairs$Plans;", Cond.fieldLink RX6 10 "PricedPairs" "table" "LPricedPairs$Table;", Cond.fieldLink RX6 37 "PricedPairs" "prices" "LPricedPairs$Prices;", Cond.fieldLink RX6 99 "PricedPairs$Table" "idleCosts" "[I", Cond.methodLink RX6 78 yX6_isWorker, Cond.instanceMethod yX6_isWorker, Cond.selects RX6 yX6_isWorker yX6_isWorker, Cond.code yX6_isWorker cX6_isWorker 2 (some .boolean), Cond.fieldLink RX6 61 "PricedPairs$Table" "workers" "I", Cond.methodLink RX6 121 yX1_leastTotal, Cond.instanceMethod yX1_leastTotal, Cond.selects RX1 yX1_leastTotal yX1_leastTotal, Cond.initialized RX1, Cond.code yX1_leastTotal cX1_leastTotal 1 (some .int), Cond.fieldLink RX1 9 "PricedPairs$Plans" "table" "LPricedPairs$Table;", Cond.methodLink RX1 24 yX4_allWorkers, Cond.instanceMethod yX4_allWorkers, Cond.selects RX4 yX4_allWorkers yX4_allWorkers, Cond.initialized RX4]
def wsL_isSo_r2 : List Cond := [Cond.code yX4_allWorkers cX4_allWorkers 1 (some .int), Cond.fieldLink RX4 20 "PricedPairs$Table" "workers" "I", Cond.methodLink RX1 30 yX1_leastTotalOf, Cond.instanceMethod yX1_leastTotalOf, Cond.selects RX1 yX1_leastTotalOf yX1_leastTotalOf, Cond.code yX1_leastTotalOf cX1_leastTotalOf 2 (some .int), Cond.fieldLink RX1 21 "PricedPairs$Plans" "least" "[[I", Cond.methodLink RX1 34 yX1_weigh, Cond.instanceMethod yX1_weigh, Cond.selects RX1 yX1_weigh yX1_weigh, Cond.code yX1_weigh cX1_weigh 6 none, Cond.fieldLink RX1 38 "PricedPairs$Table" "tasks" "I", Cond.fieldLink RX1 42 "PricedPairs$Table" "workers" "I", Cond.methodLink RX1 45 yX1_leastFrom, Cond.instanceMethod yX1_leastFrom, Cond.selects RX1 yX1_leastFrom yX1_leastFrom, Cond.code yX1_leastFrom cX1_leastFrom 5 (some .int), Cond.fieldLink RX1 49 "PricedPairs$Table" "idleCosts" "[I", Cond.methodLink RX1 56 Lib.Math.min.name, Cond.static Lib.Math.min.name, Cond.initialized "java/lang/Math", Cond.code Lib.Math.min.name Lib.Math.min.code 2 (some .int), Cond.methodLink RX1 52 yX1_totalFrom, Cond.instanceMethod yX1_totalFrom]
def wsL_isSo_r3 : List Cond := [Cond.selects RX1 yX1_totalFrom yX1_totalFrom, Cond.code yX1_totalFrom cX1_totalFrom 5 (some .int), Cond.fieldLink RX1 61 "PricedPairs$Table" "costs" "[[I", Cond.constant RX1 64 (1000000), Cond.methodLink RX6 143 yX4_allWorkersBut, Cond.instanceMethod yX4_allWorkersBut, Cond.selects RX4 yX4_allWorkersBut yX4_allWorkersBut, Cond.code yX4_allWorkersBut cX4_allWorkersBut 2 (some .int), Cond.methodLink RX4 37 yX4_allWorkers, Cond.methodLink RX6 131 yX1_leastTotalOf, Cond.methodLink RX6 137 yX2_findLeast, Cond.instanceMethod yX2_findLeast, Cond.selects RX2 yX2_findLeast yX2_findLeast, Cond.initialized RX2, Cond.code yX2_findLeast cX2_findLeast 5 none, Cond.fieldLink RX2 9 "PricedPairs$Prices" "table" "LPricedPairs$Table;", Cond.fieldLink RX2 23 "PricedPairs$Table" "tasks" "I", Cond.fieldLink RX2 19 "PricedPairs$Prices" "least" "[I", Cond.fieldLink RX2 15 "PricedPairs$Prices" "plans" "LPricedPairs$Plans;", Cond.fieldLink RX2 35 "PricedPairs$Table" "workers" "I", Cond.fieldLink RX2 49 "PricedPairs$Table" "costs" "[[I", Cond.methodLink RX2 53 Lib.Math.max.name, Cond.static Lib.Math.max.name, Cond.code Lib.Math.max.name Lib.Math.max.code 2 (some .int)]
def wsL_isSo_r4 : List Cond := [Cond.methodLink RX2 29 yX1_leastTotal, Cond.methodLink RX2 38 yX4_allWorkersBut, Cond.methodLink RX2 42 yX1_leastTotalOf, Cond.methodLink RX2 45 yX4_isBarred, Cond.instanceMethod yX4_isBarred, Cond.selects RX4 yX4_isBarred yX4_isBarred, Cond.code yX4_isBarred cX4_isBarred 3 (some .boolean), Cond.fieldLink RX4 17 "PricedPairs$Table" "costs" "[[I", Cond.methodLink RX6 146 yX2_worthOf, Cond.instanceMethod yX2_worthOf, Cond.selects RX2 yX2_worthOf yX2_worthOf, Cond.code yX2_worthOf cX2_worthOf 4 (some .int), Cond.fieldLink RX2 65 "PricedPairs$Table" "idleCosts" "[I", Cond.methodLink RX2 68 Lib.Math.min.name, Cond.methodLink RX6 149 yX2_tightTasksOf, Cond.instanceMethod yX2_tightTasksOf, Cond.selects RX2 yX2_tightTasksOf yX2_tightTasksOf, Cond.code yX2_tightTasksOf cX2_tightTasksOf 5 (some .int), Cond.methodLink RX2 71 yX2_worthOf, Cond.methodLink RL 74 yX6_price, Cond.instanceMethod yX6_price, Cond.selects RX6 yX6_price yX6_price, Cond.code yX6_price cX6_price 3 (some .int), Cond.fieldLink RX6 140 "PricedPairs$Prices" "least" "[I"]
def wsL_isSo_r5 : List Cond := [Cond.methodLink RX6 84 yX6_isTask, Cond.instanceMethod yX6_isTask, Cond.selects RX6 yX6_isTask yX6_isTask, Cond.code yX6_isTask cX6_isTask 2 (some .boolean), Cond.fieldLink RX6 72 "PricedPairs$Table" "tasks" "I", Cond.methodLink RX6 134 yX2_greatestOf, Cond.instanceMethod yX2_greatestOf, Cond.selects RX2 yX2_greatestOf yX2_greatestOf, Cond.code yX2_greatestOf cX2_greatestOf 2 (some .int), Cond.methodLink RX2 59 yX1_lossWithoutTask, Cond.instanceMethod yX1_lossWithoutTask, Cond.selects RX1 yX1_lossWithoutTask yX1_lossWithoutTask, Cond.code yX1_lossWithoutTask cX1_lossWithoutTask 2 (some .int), Cond.methodLink RL 89 yX6_costOf, Cond.instanceMethod yX6_costOf, Cond.selects RX6 yX6_costOf yX6_costOf, Cond.code yX6_costOf cX6_costOf 3 (some .int), Cond.methodLink RX6 114 yX6_isTaskOrNone, Cond.instanceMethod yX6_isTaskOrNone, Cond.selects RX6 yX6_isTaskOrNone yX6_isTaskOrNone, Cond.code yX6_isTaskOrNone cX6_isTaskOrNone 2 (some .boolean), Cond.methodLink RX6 95 yX4_isBarred, Cond.methodLink RX6 117 yX4_costWith, Cond.instanceMethod yX4_costWith]
def wsL_isSo_r6 : List Cond := [Cond.selects RX4 yX4_costWith yX4_costWith, Cond.code yX4_costWith cX4_costWith 3 (some .int), Cond.fieldLink RX4 9 "PricedPairs$Table" "idleCosts" "[I", Cond.methodLink RL 92 yL_isProved, Cond.static yL_isProved, Cond.initialized RL, Cond.code yL_isProved cL_isProved 17 (some .boolean), Cond.arrayClass .int, Cond.methodLink RL 22 yX6_total, Cond.instanceMethod yX6_total, Cond.selects RX6 yX6_total yX6_total, Cond.code yX6_total cX6_total 1 (some .int), Cond.methodLink RL 71 yX6_proof, Cond.instanceMethod yX6_proof, Cond.selects RX6 yX6_proof yX6_proof, Cond.code yX6_proof cX6_proof 1 (some .int), Cond.methodLink RX6 152 yX2_sumOfWorths, Cond.instanceMethod yX2_sumOfWorths, Cond.selects RX2 yX2_sumOfWorths yX2_sumOfWorths, Cond.code yX2_sumOfWorths cX2_sumOfWorths 3 (some .int), Cond.methodLink RX6 155 yX2_sumOfLeast, Cond.instanceMethod yX2_sumOfLeast, Cond.selects RX2 yX2_sumOfLeast yX2_sumOfLeast, Cond.code yX2_sumOfLeast cX2_sumOfLeast 3 (some .int)]
def wsL_isSo_r7 : List Cond := [Cond.methodLink RL 77 yX6_taskOf, Cond.instanceMethod yX6_taskOf, Cond.selects RX6 yX6_taskOf yX6_taskOf, Cond.code yX6_taskOf cX6_taskOf 3 (some .int), Cond.fieldLink RX6 128 "PricedPairs$Plans" "chosen" "[I", Cond.methodLink RX6 125 yX1_chooseFirst, Cond.instanceMethod yX1_chooseFirst, Cond.selects RX1 yX1_chooseFirst yX1_chooseFirst, Cond.code yX1_chooseFirst cX1_chooseFirst 3 none, Cond.fieldLink RX1 68 "PricedPairs$Plans" "chosenTotal" "I", Cond.fieldLink RX1 15 "PricedPairs$Plans" "chosen" "[I", Cond.methodLink RX1 65 yX1_leastTotal, Cond.methodLink RX1 71 yX1_lowestBestTask, Cond.instanceMethod yX1_lowestBestTask, Cond.selects RX1 yX1_lowestBestTask yX1_lowestBestTask, Cond.code yX1_lowestBestTask cX1_lowestBestTask 4 (some .int), Cond.methodLink RL 80 yX6_workerOf, Cond.instanceMethod yX6_workerOf, Cond.selects RX6 yX6_workerOf yX6_workerOf, Cond.code yX6_workerOf cX6_workerOf 3 (some .int), Cond.methodLink RL 86 yX6_count, Cond.instanceMethod yX6_count, Cond.selects RX6 yX6_count yX6_count, Cond.code yX6_count cX6_count 2 (some .int)]
def wsL_isSo_r8 : List Cond := [Cond.fieldLink RX6 19 "PricedPairs" "history" "LPricedPairs$History;", Cond.fieldLink RX6 185 "PricedPairs$History" "size" "I", Cond.fieldLink RX6 44 "PricedPairs" "text" "LPricedPairs$Text;", Cond.fieldLink RX6 188 "PricedPairs$Text" "length" "I", Cond.methodLink RX6 173 yX4_openPairs, Cond.instanceMethod yX4_openPairs, Cond.selects RX4 yX4_openPairs yX4_openPairs, Cond.code yX4_openPairs cX4_openPairs 4 (some .int), Cond.fieldLink RX4 24 "PricedPairs$Table" "tasks" "I", Cond.methodLink RX4 33 yX4_isBarred, Cond.methodLink RX6 176 yX1_chosenPairs, Cond.instanceMethod yX1_chosenPairs, Cond.selects RX1 yX1_chosenPairs yX1_chosenPairs, Cond.code yX1_chosenPairs cX1_chosenPairs 3 (some .int), Cond.methodLink RX6 179 yX2_tightPairs, Cond.instanceMethod yX2_tightPairs, Cond.selects RX2 yX2_tightPairs yX2_tightPairs, Cond.code yX2_tightPairs cX2_tightPairs 3 (some .int), Cond.methodLink RX2 74 yX2_tightTasksOf, Cond.methodLink RX2 77 yJ6_bitCount_0f7a4, Cond.static yJ6_bitCount_0f7a4, Cond.initialized RJ6, Cond.code yJ6_bitCount_0f7a4 cJ6_bitCount_0f7a4 1 (some .int), Cond.constant RJ6 265 (1431655765)]
def wsL_isSo_r9 : List Cond := [Cond.constant RJ6 266 (858993459), Cond.constant RJ6 267 (252645135), Cond.methodLink RX6 182 yX2_sumOfGreatest, Cond.instanceMethod yX2_sumOfGreatest, Cond.selects RX2 yX2_sumOfGreatest yX2_sumOfGreatest, Cond.code yX2_sumOfGreatest cX2_sumOfGreatest 3 (some .int), Cond.methodLink RX2 62 yX2_greatestOf]
def wsL_isSo : List Cond := .code yL_isSo cL_isSo 12 (some .boolean) :: ((wsL_isSo_r1 ++ (wsL_isSo_r2 ++ (wsL_isSo_r3 ++ (wsL_isSo_r4 ++ (wsL_isSo_r5 ++ (wsL_isSo_r6 ++ (wsL_isSo_r7 ++ (wsL_isSo_r8 ++ wsL_isSo_r9)))))))) ++ wsX60 ++ wsX40 ++ wsX10 ++ wsX20 ++ wsX00 ++ wsX50)
def wsL_law_r1 : List Cond := [Cond.classLink RL 10 RX6, Cond.instantiable RX6 6, Cond.initialized RX6, Cond.arrayClass .int, Cond.constant RL 8 (2147483647), Cond.methodLink RL 96 yX6_init, Cond.instanceMethod yX6_init, Cond.code yX6_init cX6_init 1 none, Cond.methodLink RX6 1 objectInit, Cond.instanceMethod objectInit, Cond.code objectInit ⟨#[0xb1]⟩ 1 none, Cond.classLink RX6 7 RX4, Cond.instantiable RX4 4, Cond.initialized RX4, Cond.fieldLink RX6 10 "PricedPairs" "table" "LPricedPairs$Table;", Cond.classLink RX6 16 RX0, Cond.instantiable RX0 2, Cond.initialized RX0, Cond.fieldLink RX6 19 "PricedPairs" "history" "LPricedPairs$History;", Cond.classLink RX6 23 RX1, Cond.instantiable RX1 4, Cond.initialized RX1, Cond.fieldLink RX6 28 "PricedPairs" "plans" "LPricedPairs$Plans;", Cond.classLink RX6 32 RX2]
def wsL_law_r2 : List Cond := [Cond.instantiable RX2 3, Cond.initialized RX2, Cond.fieldLink RX6 37 "PricedPairs" "prices" "LPricedPairs$Prices;", Cond.classLink RX6 41 RX5, Cond.instantiable RX5 2, Cond.initialized RX5, Cond.fieldLink RX6 44 "PricedPairs" "text" "LPricedPairs$Text;", Cond.classLink RX6 48 RX3, Cond.instantiable RX3 4, Cond.initialized RX3, Cond.fieldLink RX6 53 "PricedPairs" "reader" "LPricedPairs$Reader;", Cond.methodLink RX6 9 yX4_init, Cond.instanceMethod yX4_init, Cond.code yX4_init cX4_init 1 none, Cond.methodLink RX4 3 objectInit, Cond.fieldLink RX4 9 "PricedPairs$Table" "idleCosts" "[I", Cond.classLink RX4 15 "[[I", Cond.fieldLink RX4 17 "PricedPairs$Table" "costs" "[[I", Cond.methodLink RX6 18 yX0_init, Cond.instanceMethod yX0_init, Cond.code yX0_init cX0_init 2 none, Cond.methodLink RX0 3 objectInit, Cond.classLink RX0 9 RX4, Cond.fieldLink RX0 11 "PricedPairs$History" "states" "[LPricedPairs$Table;"]
def wsL_law_r3 : List Cond := [Cond.methodLink RX0 17 yX4_init, Cond.methodLink RX6 25 yX1_init, Cond.instanceMethod yX1_init, Cond.code yX1_init cX1_init 2 none, Cond.methodLink RX1 3 objectInit, Cond.fieldLink RX1 9 "PricedPairs$Plans" "table" "LPricedPairs$Table;", Cond.fieldLink RX1 15 "PricedPairs$Plans" "chosen" "[I", Cond.classLink RX1 19 "[[I", Cond.fieldLink RX1 21 "PricedPairs$Plans" "least" "[[I", Cond.methodLink RX6 34 yX2_init, Cond.instanceMethod yX2_init, Cond.code yX2_init cX2_init 3 none, Cond.methodLink RX2 3 objectInit, Cond.fieldLink RX2 9 "PricedPairs$Prices" "table" "LPricedPairs$Table;", Cond.fieldLink RX2 15 "PricedPairs$Prices" "plans" "LPricedPairs$Plans;", Cond.fieldLink RX2 19 "PricedPairs$Prices" "least" "[I", Cond.methodLink RX6 43 yX5_init, Cond.instanceMethod yX5_init, Cond.code yX5_init cX5_init 1 none, Cond.methodLink RX5 3 objectInit, Cond.arrayClass .char, Cond.fieldLink RX5 9 "PricedPairs$Text" "signs" "[C", Cond.methodLink RX6 50 yX3_init, Cond.instanceMethod yX3_init]
def wsL_law_r4 : List Cond := [Cond.code yX3_init cX3_init 2 none, Cond.methodLink RX3 3 objectInit, Cond.fieldLink RX3 9 "PricedPairs$Reader" "text" "LPricedPairs$Text;", Cond.classLink RX3 15 RX4, Cond.fieldLink RX3 18 "PricedPairs$Reader" "found" "LPricedPairs$Table;", Cond.methodLink RX3 17 yX4_init, Cond.methodLink RL 97 yL_isSo, Cond.static yL_isSo, Cond.initialized RL, Cond.code yL_isSo cL_isSo 12 (some .boolean), Cond.methodLink RL 83 yX6_workerIs, Cond.instanceMethod yX6_workerIs, Cond.selects RX6 yX6_workerIs yX6_workerIs, Cond.code yX6_workerIs cX6_workerIs 3 (some .int), Cond.fieldLink RX6 99 "PricedPairs$Table" "idleCosts" "[I", Cond.methodLink RX6 78 yX6_isWorker, Cond.instanceMethod yX6_isWorker, Cond.selects RX6 yX6_isWorker yX6_isWorker, Cond.code yX6_isWorker cX6_isWorker 2 (some .boolean), Cond.fieldLink RX6 61 "PricedPairs$Table" "workers" "I", Cond.methodLink RX6 121 yX1_leastTotal, Cond.instanceMethod yX1_leastTotal, Cond.selects RX1 yX1_leastTotal yX1_leastTotal, Cond.code yX1_leastTotal cX1_leastTotal 1 (some .int)]
def wsL_law_r5 : List Cond := [Cond.methodLink RX1 24 yX4_allWorkers, Cond.instanceMethod yX4_allWorkers, Cond.selects RX4 yX4_allWorkers yX4_allWorkers, Cond.code yX4_allWorkers cX4_allWorkers 1 (some .int), Cond.fieldLink RX4 20 "PricedPairs$Table" "workers" "I", Cond.methodLink RX1 30 yX1_leastTotalOf, Cond.instanceMethod yX1_leastTotalOf, Cond.selects RX1 yX1_leastTotalOf yX1_leastTotalOf, Cond.code yX1_leastTotalOf cX1_leastTotalOf 2 (some .int), Cond.methodLink RX1 34 yX1_weigh, Cond.instanceMethod yX1_weigh, Cond.selects RX1 yX1_weigh yX1_weigh, Cond.code yX1_weigh cX1_weigh 6 none, Cond.fieldLink RX1 38 "PricedPairs$Table" "tasks" "I", Cond.fieldLink RX1 42 "PricedPairs$Table" "workers" "I", Cond.methodLink RX1 45 yX1_leastFrom, Cond.instanceMethod yX1_leastFrom, Cond.selects RX1 yX1_leastFrom yX1_leastFrom, Cond.code yX1_leastFrom cX1_leastFrom 5 (some .int), Cond.fieldLink RX1 49 "PricedPairs$Table" "idleCosts" "[I", Cond.methodLink RX1 56 Lib.Math.min.name, Cond.static Lib.Math.min.name, Cond.initialized "java/lang/Math", Cond.code Lib.Math.min.name Lib.Math.min.code 2 (some .int)]
def wsL_law_r6 : List Cond := [Cond.methodLink RX1 52 yX1_totalFrom, Cond.instanceMethod yX1_totalFrom, Cond.selects RX1 yX1_totalFrom yX1_totalFrom, Cond.code yX1_totalFrom cX1_totalFrom 5 (some .int), Cond.fieldLink RX1 61 "PricedPairs$Table" "costs" "[[I", Cond.constant RX1 64 (1000000), Cond.methodLink RX6 143 yX4_allWorkersBut, Cond.instanceMethod yX4_allWorkersBut, Cond.selects RX4 yX4_allWorkersBut yX4_allWorkersBut, Cond.code yX4_allWorkersBut cX4_allWorkersBut 2 (some .int), Cond.methodLink RX4 37 yX4_allWorkers, Cond.methodLink RX6 131 yX1_leastTotalOf, Cond.methodLink RX6 137 yX2_findLeast, Cond.instanceMethod yX2_findLeast, Cond.selects RX2 yX2_findLeast yX2_findLeast, Cond.code yX2_findLeast cX2_findLeast 5 none, Cond.fieldLink RX2 23 "PricedPairs$Table" "tasks" "I", Cond.fieldLink RX2 35 "PricedPairs$Table" "workers" "I", Cond.fieldLink RX2 49 "PricedPairs$Table" "costs" "[[I", Cond.methodLink RX2 53 Lib.Math.max.name, Cond.static Lib.Math.max.name, Cond.code Lib.Math.max.name Lib.Math.max.code 2 (some .int), Cond.methodLink RX2 29 yX1_leastTotal, Cond.methodLink RX2 38 yX4_allWorkersBut]
def wsL_law_r7 : List Cond := [Cond.methodLink RX2 42 yX1_leastTotalOf, Cond.methodLink RX2 45 yX4_isBarred, Cond.instanceMethod yX4_isBarred, Cond.selects RX4 yX4_isBarred yX4_isBarred, Cond.code yX4_isBarred cX4_isBarred 3 (some .boolean), Cond.methodLink RX6 146 yX2_worthOf, Cond.instanceMethod yX2_worthOf, Cond.selects RX2 yX2_worthOf yX2_worthOf, Cond.code yX2_worthOf cX2_worthOf 4 (some .int), Cond.fieldLink RX2 65 "PricedPairs$Table" "idleCosts" "[I", Cond.methodLink RX2 68 Lib.Math.min.name, Cond.methodLink RX6 149 yX2_tightTasksOf, Cond.instanceMethod yX2_tightTasksOf, Cond.selects RX2 yX2_tightTasksOf yX2_tightTasksOf, Cond.code yX2_tightTasksOf cX2_tightTasksOf 5 (some .int), Cond.methodLink RX2 71 yX2_worthOf, Cond.methodLink RL 74 yX6_price, Cond.instanceMethod yX6_price, Cond.selects RX6 yX6_price yX6_price, Cond.code yX6_price cX6_price 3 (some .int), Cond.fieldLink RX6 140 "PricedPairs$Prices" "least" "[I", Cond.methodLink RX6 84 yX6_isTask, Cond.instanceMethod yX6_isTask, Cond.selects RX6 yX6_isTask yX6_isTask]
def wsL_law_r8 : List Cond := [Cond.code yX6_isTask cX6_isTask 2 (some .boolean), Cond.fieldLink RX6 72 "PricedPairs$Table" "tasks" "I", Cond.methodLink RX6 134 yX2_greatestOf, Cond.instanceMethod yX2_greatestOf, Cond.selects RX2 yX2_greatestOf yX2_greatestOf, Cond.code yX2_greatestOf cX2_greatestOf 2 (some .int), Cond.methodLink RX2 59 yX1_lossWithoutTask, Cond.instanceMethod yX1_lossWithoutTask, Cond.selects RX1 yX1_lossWithoutTask yX1_lossWithoutTask, Cond.code yX1_lossWithoutTask cX1_lossWithoutTask 2 (some .int), Cond.methodLink RL 89 yX6_costOf, Cond.instanceMethod yX6_costOf, Cond.selects RX6 yX6_costOf yX6_costOf, Cond.code yX6_costOf cX6_costOf 3 (some .int), Cond.methodLink RX6 114 yX6_isTaskOrNone, Cond.instanceMethod yX6_isTaskOrNone, Cond.selects RX6 yX6_isTaskOrNone yX6_isTaskOrNone, Cond.code yX6_isTaskOrNone cX6_isTaskOrNone 2 (some .boolean), Cond.methodLink RX6 95 yX4_isBarred, Cond.methodLink RX6 117 yX4_costWith, Cond.instanceMethod yX4_costWith, Cond.selects RX4 yX4_costWith yX4_costWith, Cond.code yX4_costWith cX4_costWith 3 (some .int), Cond.methodLink RL 92 yL_isProved]
def wsL_law_r9 : List Cond := [Cond.static yL_isProved, Cond.code yL_isProved cL_isProved 17 (some .boolean), Cond.methodLink RL 22 yX6_total, Cond.instanceMethod yX6_total, Cond.selects RX6 yX6_total yX6_total, Cond.code yX6_total cX6_total 1 (some .int), Cond.methodLink RL 71 yX6_proof, Cond.instanceMethod yX6_proof, Cond.selects RX6 yX6_proof yX6_proof, Cond.code yX6_proof cX6_proof 1 (some .int), Cond.methodLink RX6 152 yX2_sumOfWorths, Cond.instanceMethod yX2_sumOfWorths, Cond.selects RX2 yX2_sumOfWorths yX2_sumOfWorths, Cond.code yX2_sumOfWorths cX2_sumOfWorths 3 (some .int), Cond.methodLink RX6 155 yX2_sumOfLeast, Cond.instanceMethod yX2_sumOfLeast, Cond.selects RX2 yX2_sumOfLeast yX2_sumOfLeast, Cond.code yX2_sumOfLeast cX2_sumOfLeast 3 (some .int), Cond.methodLink RL 77 yX6_taskOf, Cond.instanceMethod yX6_taskOf, Cond.selects RX6 yX6_taskOf yX6_taskOf, Cond.code yX6_taskOf cX6_taskOf 3 (some .int), Cond.fieldLink RX6 128 "PricedPairs$Plans" "chosen" "[I", Cond.methodLink RX6 125 yX1_chooseFirst]
def wsL_law_r10 : List Cond := [Cond.instanceMethod yX1_chooseFirst, Cond.selects RX1 yX1_chooseFirst yX1_chooseFirst, Cond.code yX1_chooseFirst cX1_chooseFirst 3 none, Cond.fieldLink RX1 68 "PricedPairs$Plans" "chosenTotal" "I", Cond.methodLink RX1 65 yX1_leastTotal, Cond.methodLink RX1 71 yX1_lowestBestTask, Cond.instanceMethod yX1_lowestBestTask, Cond.selects RX1 yX1_lowestBestTask yX1_lowestBestTask, Cond.code yX1_lowestBestTask cX1_lowestBestTask 4 (some .int), Cond.methodLink RL 80 yX6_workerOf, Cond.instanceMethod yX6_workerOf, Cond.selects RX6 yX6_workerOf yX6_workerOf, Cond.code yX6_workerOf cX6_workerOf 3 (some .int), Cond.methodLink RL 86 yX6_count, Cond.instanceMethod yX6_count, Cond.selects RX6 yX6_count yX6_count, Cond.code yX6_count cX6_count 2 (some .int), Cond.fieldLink RX6 185 "PricedPairs$History" "size" "I", Cond.fieldLink RX6 188 "PricedPairs$Text" "length" "I", Cond.methodLink RX6 173 yX4_openPairs, Cond.instanceMethod yX4_openPairs, Cond.selects RX4 yX4_openPairs yX4_openPairs, Cond.code yX4_openPairs cX4_openPairs 4 (some .int), Cond.fieldLink RX4 24 "PricedPairs$Table" "tasks" "I"]
def wsL_law_r11 : List Cond := [Cond.methodLink RX4 33 yX4_isBarred, Cond.methodLink RX6 176 yX1_chosenPairs, Cond.instanceMethod yX1_chosenPairs, Cond.selects RX1 yX1_chosenPairs yX1_chosenPairs, Cond.code yX1_chosenPairs cX1_chosenPairs 3 (some .int), Cond.methodLink RX6 179 yX2_tightPairs, Cond.instanceMethod yX2_tightPairs, Cond.selects RX2 yX2_tightPairs yX2_tightPairs, Cond.code yX2_tightPairs cX2_tightPairs 3 (some .int), Cond.methodLink RX2 74 yX2_tightTasksOf, Cond.methodLink RX2 77 yJ6_bitCount_0f7a4, Cond.static yJ6_bitCount_0f7a4, Cond.initialized RJ6, Cond.code yJ6_bitCount_0f7a4 cJ6_bitCount_0f7a4 1 (some .int), Cond.constant RJ6 265 (1431655765), Cond.constant RJ6 266 (858993459), Cond.constant RJ6 267 (252645135), Cond.methodLink RX6 182 yX2_sumOfGreatest, Cond.instanceMethod yX2_sumOfGreatest, Cond.selects RX2 yX2_sumOfGreatest yX2_sumOfGreatest, Cond.code yX2_sumOfGreatest cX2_sumOfGreatest 3 (some .int), Cond.methodLink RX2 62 yX2_greatestOf, Cond.methodLink RL 100 yL_cell, Cond.static yL_cell]
def wsL_law_r12 : List Cond := [Cond.code yL_cell cL_cell 2 (some .int), Cond.constant RL 7 (40503), Cond.methodLink RL 104 yL_acts, Cond.static yL_acts, Cond.code yL_acts cL_acts 12 (some .boolean), Cond.constant RL 40 (10000000), Cond.constantLong RL 55 (9999), Cond.constant RL 70 (100000), Cond.methodLink RL 41 yL_low, Cond.static yL_low, Cond.code yL_low cL_low 2 (some .int), Cond.methodLink RL 47 yL_tables, Cond.static yL_tables, Cond.code yL_tables cL_tables 8 (some .boolean), Cond.methodLink RL 28 yX6_worker, Cond.instanceMethod yX6_worker, Cond.selects RX6 yX6_worker yX6_worker, Cond.code yX6_worker cX6_worker 2 (some .int), Cond.methodLink RX6 57 yX6_isCost, Cond.static yX6_isCost, Cond.code yX6_isCost cX6_isCost 1 (some .boolean), Cond.methodLink RX6 65 yX0_keep, Cond.instanceMethod yX0_keep, Cond.selects RX0 yX0_keep yX0_keep]
def wsL_law_r13 : List Cond := [Cond.code yX0_keep cX0_keep 2 none, Cond.fieldLink RX0 18 "PricedPairs$History" "size" "I", Cond.methodLink RX0 22 yX0_dropOldest, Cond.instanceMethod yX0_dropOldest, Cond.selects RX0 yX0_dropOldest yX0_dropOldest, Cond.code yX0_dropOldest cX0_dropOldest 3 none, Cond.methodLink RX0 25 yX4_copyFrom, Cond.instanceMethod yX4_copyFrom, Cond.selects RX4 yX4_copyFrom yX4_copyFrom, Cond.code yX4_copyFrom cX4_copyFrom 4 none, Cond.methodLink RX6 68 yX4_addWorker, Cond.instanceMethod yX4_addWorker, Cond.selects RX4 yX4_addWorker yX4_addWorker, Cond.code yX4_addWorker cX4_addWorker 3 none, Cond.methodLink RL 31 yX6_task, Cond.instanceMethod yX6_task, Cond.selects RX6 yX6_task yX6_task, Cond.code yX6_task cX6_task 1 (some .int), Cond.methodLink RX6 75 yX4_addTask, Cond.instanceMethod yX4_addTask, Cond.selects RX4 yX4_addTask yX4_addTask, Cond.code yX4_addTask cX4_addTask 2 none, Cond.methodLink RL 34 yX6_dropWorker, Cond.instanceMethod yX6_dropWorker]
def wsL_law_r14 : List Cond := [Cond.selects RX6 yX6_dropWorker yX6_dropWorker, Cond.code yX6_dropWorker cX6_dropWorker 2 (some .int), Cond.methodLink RX6 81 yX4_removeWorker, Cond.instanceMethod yX4_removeWorker, Cond.selects RX4 yX4_removeWorker yX4_removeWorker, Cond.code yX4_removeWorker cX4_removeWorker 4 none, Cond.methodLink RL 37 yX6_dropTask, Cond.instanceMethod yX6_dropTask, Cond.selects RX6 yX6_dropTask yX6_dropTask, Cond.code yX6_dropTask cX6_dropTask 2 (some .int), Cond.methodLink RX6 87 yX4_removeTask, Cond.instanceMethod yX4_removeTask, Cond.selects RX4 yX4_removeTask yX4_removeTask, Cond.code yX4_removeTask cX4_removeTask 4 none, Cond.methodLink RL 51 yL_reads, Cond.static yL_reads, Cond.code yL_reads cL_reads 15 (some .boolean), Cond.methodLink RL 9 yX6_clearText, Cond.instanceMethod yX6_clearText, Cond.selects RX6 yX6_clearText yX6_clearText, Cond.code yX6_clearText cX6_clearText 2 (some .int), Cond.methodLink RL 15 yX6_type, Cond.instanceMethod yX6_type, Cond.selects RX6 yX6_type yX6_type]
def wsL_law_r15 : List Cond := [Cond.code yX6_type cX6_type 2 (some .int), Cond.methodLink RX6 194 yX5_append, Cond.instanceMethod yX5_append, Cond.selects RX5 yX5_append yX5_append, Cond.code yX5_append cX5_append 2 none, Cond.fieldLink RX5 15 "PricedPairs$Text" "length" "I", Cond.methodLink RL 19 yX6_read, Cond.instanceMethod yX6_read, Cond.selects RX6 yX6_read yX6_read, Cond.code yX6_read cX6_read 1 (some .int), Cond.fieldLink RX6 201 "PricedPairs$Reader" "reason" "I", Cond.fieldLink RX6 207 "PricedPairs$Reader" "found" "LPricedPairs$Table;", Cond.methodLink RX6 198 yX3_readText, Cond.instanceMethod yX3_readText, Cond.selects RX3 yX3_readText yX3_readText, Cond.code yX3_readText cX3_readText 3 none, Cond.fieldLink RX3 22 "PricedPairs$Reader" "place" "I", Cond.fieldLink RX3 26 "PricedPairs$Reader" "reason" "I", Cond.fieldLink RX3 33 "PricedPairs$Table" "workers" "I", Cond.fieldLink RX3 36 "PricedPairs$Text" "length" "I", Cond.methodLink RX3 29 yX3_readRow, Cond.instanceMethod yX3_readRow, Cond.selects RX3 yX3_readRow yX3_readRow, Cond.code yX3_readRow cX3_readRow 3 none]
def wsL_law_r16 : List Cond := [Cond.fieldLink RX3 49 "PricedPairs$Table" "tasks" "I", Cond.fieldLink RX3 52 "PricedPairs$Table" "idleCosts" "[I", Cond.methodLink RX3 45 yX3_readEntries, Cond.instanceMethod yX3_readEntries, Cond.selects RX3 yX3_readEntries yX3_readEntries, Cond.code yX3_readEntries cX3_readEntries 5 (some .int), Cond.fieldLink RX3 60 "PricedPairs$Table" "costs" "[[I", Cond.methodLink RX3 64 yX3_readEntry, Cond.instanceMethod yX3_readEntry, Cond.selects RX3 yX3_readEntry yX3_readEntry, Cond.code yX3_readEntry cX3_readEntry 1 (some .int), Cond.methodLink RX3 67 yX5_isAt, Cond.instanceMethod yX5_isAt, Cond.selects RX5 yX5_isAt yX5_isAt, Cond.code yX5_isAt cX5_isAt 3 (some .boolean), Cond.methodLink RX3 56 yX3_readNumber, Cond.instanceMethod yX3_readNumber, Cond.selects RX3 yX3_readNumber yX3_readNumber, Cond.code yX3_readNumber cX3_readNumber 3 (some .int), Cond.methodLink RX3 71 yX5_digitAt, Cond.instanceMethod yX5_digitAt, Cond.selects RX5 yX5_digitAt yX5_digitAt, Cond.code yX5_digitAt cX5_digitAt 2 (some .int), Cond.methodLink RX3 41 yX3_step]
def wsL_law_r17 : List Cond := [Cond.instanceMethod yX3_step, Cond.selects RX3 yX3_step yX3_step, Cond.code yX3_step cX3_step 3 none, Cond.methodLink RX6 210 yX4_copyFrom, Cond.methodLink RL 25 yX6_fault, Cond.instanceMethod yX6_fault, Cond.selects RX6 yX6_fault yX6_fault, Cond.code yX6_fault cX6_fault 2 (some .int), Cond.fieldLink RX6 204 "PricedPairs$Reader" "place" "I", Cond.methodLink RL 57 yX6_times, Cond.instanceMethod yX6_times, Cond.selects RX6 yX6_times yX6_times, Cond.code yX6_times cX6_times 5 (some .int), Cond.constant RX6 103 (2000000000), Cond.constantLong RX6 108 (9999), Cond.methodLink RX6 104 yX4_greatestCost, Cond.instanceMethod yX4_greatestCost, Cond.selects RX4 yX4_greatestCost yX4_greatestCost, Cond.code yX4_greatestCost cX4_greatestCost 4 (some .int), Cond.methodLink RX4 27 Lib.Math.max.name, Cond.methodLink RX6 110 yX4_multiplyCosts, Cond.instanceMethod yX4_multiplyCosts, Cond.selects RX4 yX4_multiplyCosts yX4_multiplyCosts, Cond.code yX4_multiplyCosts cX4_multiplyCosts 4 none]
def wsL_law_r18 : List Cond := [Cond.methodLink RL 60 yX6_idle, Cond.instanceMethod yX6_idle, Cond.selects RX6 yX6_idle yX6_idle, Cond.code yX6_idle cX6_idle 4 (some .int), Cond.methodLink RL 63 yX6_bar, Cond.instanceMethod yX6_bar, Cond.selects RX6 yX6_bar yX6_bar, Cond.code yX6_bar cX6_bar 3 (some .int), Cond.methodLink RX6 91 yX6_changePair, Cond.instanceMethod yX6_changePair, Cond.selects RX6 yX6_changePair yX6_changePair, Cond.code yX6_changePair cX6_changePair 5 (some .int), Cond.fieldLink RX6 213 "PricedPairs$Table" "costs" "[[I", Cond.methodLink RL 66 yX6_cost, Cond.instanceMethod yX6_cost, Cond.selects RX6 yX6_cost yX6_cost, Cond.code yX6_cost cX6_cost 4 (some .int), Cond.constant RX6 90 (100000)]
def wsL_law : List Cond := (wsL_law_r1 ++ (wsL_law_r2 ++ (wsL_law_r3 ++ (wsL_law_r4 ++ (wsL_law_r5 ++ (wsL_law_r6 ++ (wsL_law_r7 ++ (wsL_law_r8 ++ (wsL_law_r9 ++ (wsL_law_r10 ++ (wsL_law_r11 ++ (wsL_law_r12 ++ (wsL_law_r13 ++ (wsL_law_r14 ++ (wsL_law_r15 ++ (wsL_law_r16 ++ (wsL_law_r17 ++ wsL_law_r18))))))))))))))))) ++ wsX60 ++ wsX40 ++ wsX00 ++ wsX10 ++ wsX20 ++ wsX50 ++ wsX30 ++ ([] : List Cond)
abbrev vwCl : List vw_C := [(RX0, TX0, 2), (RX1, TX1, 4), (RX2, TX2, 3), (RX3, TX3, 4), (RX4, TX4, 4), (RX5, TX5, 2), (RX6, TX6, 6)]
end
section
/-! MY LAYER: one world of 82 cells, and of 83 where the law has prices of its own; its state is a function of a cell's number and a place, in whole numbers -/
abbrev St : Type := Int → Int → Int
abbrev CY : Type := ClassId × ClassId × ClassId × ClassId
def iI (z : Int) : Int32 := Int32.ofInt z
def InR (z : Int) : Prop := -2147483648 ≤ z ∧ z < 2147483648
def RG (σ : St) : Prop := ∀ q k, InR (σ q k)
def up (σ : St) (q k v : Int) : St := fun q' k' => if q' = q ∧ k' = k then v else σ q' k'
def TB (t : Int) : Int := 11 + 10 * t
def TI (t : Int) : Int := 12 + 10 * t
def TC (t : Int) : Int := 13 + 10 * t
def TR (t r : Int) : Int := 14 + 10 * t + r
def LR (w : Int) : Int := 71 + w
theorem iI_toInt {z : Int} (h : InR z) : (iI z).toInt = z := by
  unfold iI
  obtain ⟨h1, h2⟩ := h
  exact Int32.toInt_ofInt_of_le (by omega) (by omega)
theorem iI_of (x : Int32) : iI x.toInt = x := Int32.ofInt_toInt x
theorem InR_of (x : Int32) : InR x.toInt := by
  have h1 := Int32.le_toInt x
  have h2 := Int32.toInt_lt x
  unfold InR
  omega
theorem iI_add (a b : Int) : iI a + iI b = iI (a + b) := (Int32.ofInt_add a b).symm
theorem iI_sub (a b : Int) : iI a - iI b = iI (a - b) := (Int32.ofInt_sub a b).symm
theorem iI_mul (a b : Int) : iI a * iI b = iI (a * b) := (Int32.ofInt_mul a b).symm
theorem iI_neg (a : Int) : - iI a = iI (-a) := (Int32.ofInt_neg a).symm
theorem iI_lt {a b : Int} (ha : InR a) (hb : InR b) : iI a < iI b ↔ a < b := by
  rw [Int32.lt_iff_toInt_lt, iI_toInt ha, iI_toInt hb]
theorem iI_le {a b : Int} (ha : InR a) (hb : InR b) : iI a ≤ iI b ↔ a ≤ b := by
  rw [Int32.le_iff_toInt_le, iI_toInt ha, iI_toInt hb]
theorem iI_eq {a b : Int} (ha : InR a) (hb : InR b) : iI a = iI b ↔ a = b := by
  rw [← Int32.toInt_inj, iI_toInt ha, iI_toInt hb]
theorem InR_0 : InR 0 := ⟨by decide, by decide⟩
theorem iI_clamp {z : Int} (h0 : 0 ≤ z) (h : InR z) : (iI z).toNatClampNeg = z.toNat := by
  show (iI z).toInt.toNat = z.toNat
  rw [iI_toInt h]
theorem iI_vp {z : Int} {n : Nat} (h0 : 0 ≤ z) (h1 : z < n) (h : InR z) : vp_in (iI z) n := by
  rw [vp_in_iff, iI_toInt h]
  exact ⟨h0, h1⟩
/-- how many numbers an array of numbers holds; 0: the cell is another thing -/
def alen (q : Int) : Int :=
  if q = 4 ∨ q = 7 then 7 else if 11 ≤ q ∧ q < 71 then (if (q - 11) % 10 = 0 ∨ (q - 11) % 10 = 2 then 0 else 7)
  else if 71 ≤ q ∧ q < 79 then 128 else if q = 79 then 2 else if q = 80 then 49 else if q = 81 ∨ q = 82 then 7 else 0
def cel (ad : Int → Nat) (cy : CY) (σ : St) (q : Int) : va_E :=
  if 0 < alen q then .inl (cy.1, (alen q).toNat, .inl (fun k => iI (σ q k)))
  else if q = 0 then .inr (6, [.ref (ad (TB 0)), .ref (ad 1), .ref (ad 3), .ref (ad 6), .ref (ad 8), .ref (ad 10)])
  else if q = 1 then .inr (0, [.int (iI (σ q 0)), .ref (ad 2)])
  else if q = 2 then .inl (cy.2.2.1, 4, .inr (.inr (.inr (.inr (fun k => some (ad (TB (σ q k))))))))
  else if q = 3 then .inr (1, [.ref (ad 4), .int (iI (σ q 1)), .ref (ad (TB 0)), .ref (ad 5)])
  else if q = 5 then .inl (cy.2.2.2, 8, .inr (.inr (.inr (.inr (fun k => some (ad (LR k)))))))
  else if q = 6 then .inr (2, [.ref (ad 7), .ref (ad (TB 0)), .ref (ad 3)])
  else if q = 8 then .inr (5, [.int (iI (σ q 0)), .ref (ad 9)])
  else if q = 9 then .inl (cy.2.1, 80, .inl (fun k => iI (σ q k)))
  else if q = 10 then .inr (3, [.int (iI (σ q 0)), .int (iI (σ q 1)), .ref (ad (TB 5)), .ref (ad 8)])
  else if (q - 11) % 10 = 0 then .inr (4, [.int (iI (σ q 0)), .int (iI (σ q 1)), .ref (ad (q + 1)), .ref (ad (q + 2))])
  else .inl (cy.2.2.2, 7, .inr (.inr (.inr (.inr (fun k => some (ad (q + 1 + k)))))))
theorem cel_congr {ad : Int → Nat} {cy : CY} {σ σ' : St} {q : Int} (h : ∀ k, σ q k = σ' q k) : cel ad cy σ q = cel ad cy σ' q := by
  have e : σ q = σ' q := funext h
  unfold cel
  rw [e]
theorem cel_I {ad : Int → Nat} {cy : CY} {σ : St} {q : Int} (h : 0 < alen q) : cel ad cy σ q = .inl (cy.1, (alen q).toNat, .inl (fun k => iI (σ q k))) := by
  unfold cel
  rw [if_pos h]
theorem cel_0 {ad : Int → Nat} {cy : CY} {σ : St} : cel ad cy σ 0 = .inr (6, [.ref (ad (TB 0)), .ref (ad 1), .ref (ad 3), .ref (ad 6), .ref (ad 8), .ref (ad 10)]) := rfl
theorem cel_1 {ad : Int → Nat} {cy : CY} {σ : St} : cel ad cy σ 1 = .inr (0, [.int (iI (σ 1 0)), .ref (ad 2)]) := rfl
theorem cel_2 {ad : Int → Nat} {cy : CY} {σ : St} : cel ad cy σ 2 = .inl (cy.2.2.1, 4, .inr (.inr (.inr (.inr (fun k => some (ad (TB (σ 2 k)))))))) := rfl
theorem cel_3 {ad : Int → Nat} {cy : CY} {σ : St} : cel ad cy σ 3 = .inr (1, [.ref (ad 4), .int (iI (σ 3 1)), .ref (ad (TB 0)), .ref (ad 5)]) := rfl
theorem cel_5 {ad : Int → Nat} {cy : CY} {σ : St} : cel ad cy σ 5 = .inl (cy.2.2.2, 8, .inr (.inr (.inr (.inr (fun k => some (ad (LR k))))))) := rfl
theorem cel_6 {ad : Int → Nat} {cy : CY} {σ : St} : cel ad cy σ 6 = .inr (2, [.ref (ad 7), .ref (ad (TB 0)), .ref (ad 3)]) := rfl
theorem cel_8 {ad : Int → Nat} {cy : CY} {σ : St} : cel ad cy σ 8 = .inr (5, [.int (iI (σ 8 0)), .ref (ad 9)]) := rfl
theorem cel_9 {ad : Int → Nat} {cy : CY} {σ : St} : cel ad cy σ 9 = .inl (cy.2.1, 80, .inl (fun k => iI (σ 9 k))) := rfl
theorem cel_10 {ad : Int → Nat} {cy : CY} {σ : St} : cel ad cy σ 10 = .inr (3, [.int (iI (σ 10 0)), .int (iI (σ 10 1)), .ref (ad (TB 5)), .ref (ad 8)]) := rfl
theorem t6 {t : Int} (h : 0 ≤ t ∧ t < 6) : t = 0 ∨ t = 1 ∨ t = 2 ∨ t = 3 ∨ t = 4 ∨ t = 5 := by omega
theorem cel_TB {ad : Int → Nat} {cy : CY} {σ : St} {t : Int} (h : 0 ≤ t ∧ t < 6) : cel ad cy σ (TB t) = .inr (4, [.int (iI (σ (TB t) 0)), .int (iI (σ (TB t) 1)), .ref (ad (TI t)), .ref (ad (TC t))]) := by
  rcases t6 h with rfl | rfl | rfl | rfl | rfl | rfl <;> rfl
theorem cel_TC {ad : Int → Nat} {cy : CY} {σ : St} {t : Int} (h : 0 ≤ t ∧ t < 6) : cel ad cy σ (TC t) = .inl (cy.2.2.2, 7, .inr (.inr (.inr (.inr (fun k => some (ad (TR t k))))))) := by
  rcases t6 h with rfl | rfl | rfl | rfl | rfl | rfl <;> rfl
/-- how many cells the world has: one more where the law has prices of its own -/
def nC (ad : Int → Nat) : Nat := if ad (-1) = 0 then 82 else 83
theorem nC_b (ad : Int → Nat) : 82 ≤ nC ad ∧ nC ad ≤ 83 := by
  unfold nC
  split <;> omega
def gw (ad : Int → Nat) (cy : CY) (σ : St) : va_W := (List.range (nC ad)).map (fun i : Nat => (ad i, cel ad cy σ i))
def Ap (ad : Int → Nat) : Prop := ∀ q q' : Int, 0 ≤ q → q < 83 → 0 ≤ q' → q' < 83 → ad q = ad q' → q = q'
def AA (ad : Int → Nat) : Nat → Prop := fun a => ∃ q : Int, 0 ≤ q ∧ q < 83 ∧ a = ad q
theorem gw_atN {ad : Int → Nat} {cy : CY} {σ : St} {q : Int} (h : 0 ≤ q ∧ q < nC ad) : (gw ad cy σ)[q.toNat]? = some (ad q, cel ad cy σ q) := by
  unfold gw
  rw [List.getElem?_map, List.getElem?_range (by omega)]
  show some (ad (q.toNat : Int), cel ad cy σ (q.toNat : Int)) = _
  rw [Int.toNat_of_nonneg h.1]
theorem gw_setN {ad : Int → Nat} {cy : CY} {σ σ' : St} {q : Int} (h : 0 ≤ q ∧ q < nC ad) (he : ∀ q' k, q' ≠ q → σ' q' k = σ q' k) : (gw ad cy σ).set q.toNat (ad q, cel ad cy σ' q) = gw ad cy σ' := by
  apply List.ext_getElem?
  intro i
  by_cases hi : i < nC ad
  · by_cases hq : i = q.toNat
    · subst hq
      rw [List.getElem?_set_self (by unfold gw; simp; omega), gw_atN h]
    · rw [List.getElem?_set_ne (Ne.symm hq)]
      have h1 := gw_atN (ad := ad) (cy := cy) (σ := σ) (q := (i : Int)) ⟨by omega, by omega⟩
      have h2 := gw_atN (ad := ad) (cy := cy) (σ := σ') (q := (i : Int)) ⟨by omega, by omega⟩
      rw [Int.toNat_natCast] at h1 h2
      rw [h1, h2, cel_congr (fun k => he i k (by omega))]
  · have l : ∀ τ : St, (gw ad cy τ).length = nC ad := fun τ => by unfold gw; simp
    rw [List.getElem?_eq_none (by rw [List.length_set, l]; omega), List.getElem?_eq_none (by rw [l]; omega)]
theorem gw_at {ad : Int → Nat} {cy : CY} {σ : St} {q : Int} (h : 0 ≤ q ∧ q < 82) : (gw ad cy σ)[q.toNat]? = some (ad q, cel ad cy σ q) := gw_atN (by have := nC_b ad; omega)
theorem gw_set {ad : Int → Nat} {cy : CY} {σ σ' : St} {q : Int} (h : 0 ≤ q ∧ q < 82) (he : ∀ q' k, q' ≠ q → σ' q' k = σ q' k) : (gw ad cy σ).set q.toNat (ad q, cel ad cy σ' q) = gw ad cy σ' := gw_setN (by have := nC_b ad; omega) he
theorem gw_D {ad : Int → Nat} {cy : CY} {σ : St} {A : Nat → Prop} (hA : Ap ad) (hc : ∀ q : Int, 0 ≤ q → q < 83 → A (ad q)) : va_D A (gw ad cy σ) := by
  have key : ∀ (k : Nat) (x : Nat × va_E), (gw ad cy σ)[k]? = some x → k < nC ad ∧ x.1 = ad k := by
    intro k x hx
    have hl : k < nC ad := by
      have := (List.getElem?_eq_some_iff.mp hx).1
      unfold gw at this
      simpa using this
    have h1 := gw_atN (ad := ad) (cy := cy) (σ := σ) (q := (k : Int)) ⟨by omega, by omega⟩
    rw [Int.toNat_natCast, hx] at h1
    exact ⟨hl, by rw [Option.some.inj h1]⟩
  have hnc := nC_b ad
  refine ⟨fun i j x y hi hj hxy => ?_, fun k x hx => ?_⟩
  · obtain ⟨i1, i2⟩ := key i x hi
    obtain ⟨j1, j2⟩ := key j y hj
    rw [i2, j2] at hxy
    have := hA i j (by omega) (by omega) (by omega) (by omega) hxy
    omega
  · obtain ⟨i1, i2⟩ := key k x hx
    rw [i2]
    exact hc k (by omega) (by omega)
def tysOf (cy : CY) : List (ClassId × FieldType) := [(cy.1, .int), (cy.2.1, .char), (cy.2.2.1, .object "PricedPairs$Table"), (cy.2.2.2, .array .int)]
/-- the environment of a frame: program, launch, env, room, start, method, arguments, frames below, method, code, end, fields' places, classes of arrays, free cells, cells and slots made so far -/
abbrev EV : Type := Program × Launch × Env × Room × State × MethodId × Array Value × List Frame × Method × Code × (State → Prop) × va_G × CY × (Nat → Prop) × Nat × Nat
def LV (ls : Array Slot) (nL : Nat) (lv : List (Option Value)) : Prop := ls.size = nL ∧ lv_wf ls ∧ ∀ (i : Nat) (v : Value), lv[i]? = some (some v) → ls[i]? = some (.val v)
def Cx (E : EV) (ad : Int → Nat) (cc : ByteArray) (nL : Nat) (own : String) (Ts : List Cond) (fr lo : Nat) : Prop := match E with
  | (p, l, e, R, s, m, args, below, meth, c, Q, D, cy, A, k, n) => p.tables.exec = Jvm.exec ∧ c.code = cc ∧ c.maxLocals = nL ∧ s.vm.findClass own = some m.cls ∧ (∀ w ∈ Ts, w.before args s = true) ∧ va_K D vwCl (tysOf cy) s ∧ Ap ad ∧ (∀ q : Int, 0 ≤ q → q < 83 → A (ad q)) ∧ k ≤ R.cells ∧ n ≤ R.slots ∧ fr ≤ R.frames ∧ lo ≤ R.locals
def WG (E : EV) (ad : Int → Nat) (nL : Nat) (σ : St) (pc : Nat) (lv : List (Option Value)) (st : List Value) : Prop := match E with
  | (p, l, e, R, s, m, args, below, meth, c, Q, D, cy, A, k, n) => RG σ → ∀ (H : Heap) (locs : List Loc) (ls : Array Slot), va_P D vwCl (gw ad cy σ) H → va_S A s.heap H locs → LV ls nL lv → W p l e R s m args below meth c H locs k n Q (F0 m pc ls st)
theorem LV.sub {ls : Array Slot} {nL : Nat} {lv lv' : List (Option Value)} (h : LV ls nL lv) (hs : ∀ (i : Nat) (v : Value), lv'[i]? = some (some v) → lv[i]? = some (some v)) : LV ls nL lv' := ⟨h.1, h.2.1, fun i v hv => h.2.2 i v (hs i v hv)⟩
def lvl (lv : List (Option Value)) : List (Nat × Value) := (List.range lv.length).filterMap (fun i => (lv[i]?).join.map (fun v => (i, v)))
theorem lvl_mem {lv : List (Option Value)} {i : Nat} {v : Value} : (i, v) ∈ lvl lv ↔ lv[i]? = some (some v) := by
  unfold lvl
  rw [List.mem_filterMap]
  constructor
  · rintro ⟨j, hj, h⟩
    cases hl : lv[j]? with
    | none => rw [hl] at h; cases h
    | some o =>
      cases o with
      | none => rw [hl] at h; cases h
      | some x =>
        rw [hl] at h
        have h' : (j, x) = (i, v) := Option.some.inj h
        cases h'
        exact hl
  · intro h
    refine ⟨i, List.mem_range.mpr (List.getElem?_eq_some_iff.mp h).1, ?_⟩
    rw [h]
    rfl
theorem LV.has {ls : Array Slot} {nL : Nat} {lv : List (Option Value)} (h : LV ls nL lv) : lv_has ls nL (lvl lv) := ⟨h.1, h.2.1, fun q hq => h.2.2 q.1 q.2 (lvl_mem.mp hq)⟩
/-- after a store of one slot: what stood ahead of it is no long -/
theorem LV.put {ls' : Array Slot} {nL : Nat} {lv : List (Option Value)} {i : Nat} {x : Value} (h : lv_has ls' nL ((i, x) :: (lvl lv).filter (fun q => !(q.1 == i) && !(q.1 + 1 == i && q.2.category == 2)))) (hc : ∀ v, lv[i - 1]? = some (some v) → i = 0 ∨ v.category = 1) : LV ls' nL (lv.set i (some x)) := by
  refine ⟨h.1, h.2.1, fun j v hv => ?_⟩
  by_cases hj : j = i
  · subst hj
    have hl : j < lv.length := by
      have := (List.getElem?_eq_some_iff.mp hv).1
      rwa [List.length_set] at this
    rw [List.getElem?_set_self hl] at hv
    cases hv
    exact h.2.2 (j, x) List.mem_cons_self
  · rw [List.getElem?_set_ne (Ne.symm hj)] at hv
    refine h.2.2 (j, v) (List.mem_cons_of_mem _ (List.mem_filter.mpr ⟨lvl_mem.mpr hv, ?_⟩))
    by_cases h2 : j + 1 = i
    · have := hc v (by rw [← h2]; exact hv)
      have h3 : v.category = 1 := by rcases this with h4 | h4; omega; exact h4
      simp [hj, h3]
    · simp [hj, h2]
/-- a method's start and end, in the layer's words -/
def WS (D : va_G) (ad : Int → Nat) (cy : CY) (σ : St) (U : State) : Prop := va_P D vwCl (gw ad cy σ) U.heap ∧ va_K D vwCl (tysOf cy) U ∧ Ap ad ∧ RG σ
def rO (r : Option Int) : Option Value := r.map (fun z => .int (iI z))
def GQ (D : va_G) (ad : Int → Nat) (cy : CY) (post : Option Int → St → Prop) : Array Value → State → Outcome → State → Prop := fun _ st o t => (∃ (r : Option Int) (σ' : St), o = .returned (rO r) ∧ post r σ' ∧ WS D ad cy σ' t) ∧ va_F (AA ad) st t
theorem rg_up {σ : St} {q k v : Int} (h : RG σ) (hv : InR v) : RG (up σ q k v) := fun a b => by
  unfold up
  by_cases e : a = q ∧ b = k
  · rw [if_pos e]; exact hv
  · rw [if_neg e]; exact h a b
theorem WS.calling {D : va_G} {ad : Int → Nat} {cy : CY} {σ : St} {U : State} {g : JFrame} {mk : MethodId} {a : Array Value} (h : WS D ad cy σ U) : WS D ad cy σ (U.calling g mk a) := ⟨h.1, va_K.moved (u := U) (U := U.calling g mk a) (Vm.Alike.refl U.vm) h.2.1, h.2.2⟩
def MG (l : Launch) (y : MethodName) (ws : List Cond) (fr lo : Nat) (D : va_G) (ad : Int → Nat) (cy : CY) (σ : St) (avs : List Value) (post : Option Int → St → Prop) : Prop :=
  Met l y ws { frames := fr, cells := 0, slots := 0, locals := lo } (va_Pc avs (WS D ad cy σ)) (GQ D ad cy post) 0 0 (AA ad)
/-- the frame's end is that of a method with this contract -/
def Rt (E : EV) (ad : Int → Nat) (ret : Option FieldType) (post : Option Int → St → Prop) : Prop := match E with
  | (p, l, e, R, s, m, args, below, meth, c, Q, D, cy, A, k, n) => meth.sig.returnType = ret ∧ meth.locks = false ∧ Q = MQ below (GQ D ad cy post) args s k n (AA ad) ∧ A = AA ad ∧ k = 0 ∧ n = 0
end
section
/-! MY RULES: an instruction a row, over the layer -/
section RULES
variable {E : EV} {ad : Int → Nat} {cc : ByteArray} {nL : Nat} {own : String} {Ts : List Cond} {fr lo : Nat} {σ : St} {pc : Nat} {lv : List (Option Value)} {st : List Value}
theorem g_rg (k : RG σ → WG E ad nL σ pc lv st) : WG E ad nL σ pc lv st := by
  obtain ⟨p, l, e, R, s, m, args, below, meth, c, Q, D, cy, A, kc, ks⟩ := E
  intro hR
  exact k hR hR
theorem g_lv {lv' : List (Option Value)} (hs : ∀ (i : Nat) (v : Value), lv'[i]? = some (some v) → lv[i]? = some (some v)) (k : WG E ad nL σ pc lv' st) : WG E ad nL σ pc lv st := by
  obtain ⟨p, l, e, R, s, m, args, below, meth, c, Q, D, cy, A, kc, ks⟩ := E
  intro hR H locs ls hP hS hl
  exact k hR H locs ls hP hS (hl.sub hs)
theorem g_iconst (X : Cx E ad cc nL own Ts fr lo) {n : Int} (hdg : decode cc pc = .ok (.iconst n, 1)) (k : WG E ad nL σ (pc + 1) lv (.int (iI n) :: st)) : WG E ad nL σ (pc) lv (st) := by
  obtain ⟨p, l, e, R, s, m, args, below, meth, c, Q, D, cy, A, kc, ks⟩ := E
  obtain ⟨hx, hb, hml, hown, hts, hK, hAp, hAA, hkc, hks, hfr, hlo⟩ := X
  intro hR H locs ls hP hS hl
  exact lv_iconst hx hb hdg rfl (k hR H locs ls hP hS hl)
theorem g_bipush (X : Cx E ad cc nL own Ts fr lo) {n : Int} (hdg : decode cc pc = .ok (.bipush n, 2)) (hv : (Int8.ofInt n).toInt32 = iI n) (k : WG E ad nL σ (pc + 2) lv (.int (iI n) :: st)) : WG E ad nL σ (pc) lv (st) := by
  obtain ⟨p, l, e, R, s, m, args, below, meth, c, Q, D, cy, A, kc, ks⟩ := E
  obtain ⟨hx, hb, hml, hown, hts, hK, hAp, hAA, hkc, hks, hfr, hlo⟩ := X
  intro hR H locs ls hP hS hl
  exact lv_bipush hx hb hdg hv (k hR H locs ls hP hS hl)
theorem g_sipush (X : Cx E ad cc nL own Ts fr lo) {n : Int} (hdg : decode cc pc = .ok (.sipush n, 3)) (hv : (Int16.ofInt n).toInt32 = iI n) (k : WG E ad nL σ (pc + 3) lv (.int (iI n) :: st)) : WG E ad nL σ (pc) lv (st) := by
  obtain ⟨p, l, e, R, s, m, args, below, meth, c, Q, D, cy, A, kc, ks⟩ := E
  obtain ⟨hx, hb, hml, hown, hts, hK, hAp, hAA, hkc, hks, hfr, hlo⟩ := X
  intro hR H locs ls hP hS hl
  exact lv_sipush hx hb hdg hv (k hR H locs ls hP hS hl)
theorem g_ldc (X : Cx E ad cc nL own Ts fr lo) {v : Int32} {z : Int} {idx : Nat} (hw : Cond.constant own idx v ∈ Ts) (hv : v = iI z) (hdg : decode cc pc = .ok (.ldc idx, 2)) (k : WG E ad nL σ (pc + 2) lv (.int (iI z) :: st)) : WG E ad nL σ (pc) lv (st) := by
  obtain ⟨p, l, e, R, s, m, args, below, meth, c, Q, D, cy, A, kc, ks⟩ := E
  obtain ⟨hx, hb, hml, hown, hts, hK, hAp, hAA, hkc, hks, hfr, hlo⟩ := X
  intro hR H locs ls hP hS hl
  subst hv
  exact lv_ldc hx hb hown (hts _ hw) hdg (k hR H locs ls hP hS hl)
theorem g_ldc2 (X : Cx E ad cc nL own Ts fr lo) {v : Int64} {idx : Nat} (hw : Cond.constantLong own idx v ∈ Ts) (hdg : decode cc pc = .ok (.ldc2_w idx, 3)) (k : WG E ad nL σ (pc + 3) lv (.long v :: st)) : WG E ad nL σ (pc) lv (st) := by
  obtain ⟨p, l, e, R, s, m, args, below, meth, c, Q, D, cy, A, kc, ks⟩ := E
  obtain ⟨hx, hb, hml, hown, hts, hK, hAp, hAA, hkc, hks, hfr, hlo⟩ := X
  intro hR H locs ls hP hS hl
  exact lv_ldc2 hx hb hown (hts _ hw) hdg (k hR H locs ls hP hS hl)
theorem g_iload0 (X : Cx E ad cc nL own Ts fr lo) {r : List (Option Value)} {x : Int32} (hdg : decode cc pc = .ok (.iload_n 0, 1)) (k : WG E ad nL σ (pc + 1) (some (.int x) :: r) (.int x :: st)) : WG E ad nL σ (pc) (some (.int x) :: r) (st) := by
  obtain ⟨p, l, e, R, s, m, args, below, meth, c, Q, D, cy, A, kc, ks⟩ := E
  obtain ⟨hx, hb, hml, hown, hts, hK, hAp, hAA, hkc, hks, hfr, hlo⟩ := X
  intro hR H locs ls hP hS hl
  exact lv_iload_n hx hb hdg rfl (hl.2.2 0 _ rfl) (k hR H locs ls hP hS hl)
theorem g_aload0 (X : Cx E ad cc nL own Ts fr lo) {r : List (Option Value)} {x : Nat} (hdg : decode cc pc = .ok (.aload_n 0, 1)) (k : WG E ad nL σ (pc + 1) (some (.ref x) :: r) (.ref x :: st)) : WG E ad nL σ (pc) (some (.ref x) :: r) (st) := by
  obtain ⟨p, l, e, R, s, m, args, below, meth, c, Q, D, cy, A, kc, ks⟩ := E
  obtain ⟨hx, hb, hml, hown, hts, hK, hAp, hAA, hkc, hks, hfr, hlo⟩ := X
  intro hR H locs ls hP hS hl
  exact lv_aload_n hx hb hdg rfl (hl.2.2 0 _ rfl) (k hR H locs ls hP hS hl)
theorem g_istore0 (X : Cx E ad cc nL own Ts fr lo) {r : List (Option Value)} {u : Option Value} {x : Int32} (hdg : decode cc pc = .ok (.istore_n 0, 1)) (hn : 0 < nL) (k : WG E ad nL σ (pc + 1) (some (.int x) :: r) (st)) : WG E ad nL σ (pc) (u :: r) (.int x :: st) := by
  obtain ⟨p, l, e, R, s, m, args, below, meth, c, Q, D, cy, A, kc, ks⟩ := E
  obtain ⟨hx, hb, hml, hown, hts, hK, hAp, hAA, hkc, hks, hfr, hlo⟩ := X
  intro hR H locs ls hP hS hl
  refine lv_istore_n (i := 0) hx hb hdg rfl hl.has hn rfl (fun ls2 hl2 => ?_)
  exact k hR H locs ls2 hP hS (LV.put hl2 (fun v hv => Or.inl rfl))
theorem g_astore0 (X : Cx E ad cc nL own Ts fr lo) {r : List (Option Value)} {u : Option Value} {x : Nat} (hdg : decode cc pc = .ok (.astore_n 0, 1)) (hn : 0 < nL) (k : WG E ad nL σ (pc + 1) (some (.ref x) :: r) (st)) : WG E ad nL σ (pc) (u :: r) (.ref x :: st) := by
  obtain ⟨p, l, e, R, s, m, args, below, meth, c, Q, D, cy, A, kc, ks⟩ := E
  obtain ⟨hx, hb, hml, hown, hts, hK, hAp, hAA, hkc, hks, hfr, hlo⟩ := X
  intro hR H locs ls hP hS hl
  refine lv_astore_n (i := 0) hx hb hdg rfl hl.has hn rfl (fun ls2 hl2 => ?_)
  exact k hR H locs ls2 hP hS (LV.put hl2 (fun v hv => Or.inl rfl))
theorem g_iinc0 (X : Cx E ad cc nL own Ts fr lo) {r : List (Option Value)} {z n : Int} (hdg : decode cc pc = .ok (.iinc 0 n, 3)) (hn : 0 < nL) (k : WG E ad nL σ (pc + 3) (some (.int (iI (z + n))) :: r) (st)) : WG E ad nL σ (pc) (some (.int (iI z)) :: r) (st) := by
  obtain ⟨p, l, e, R, s, m, args, below, meth, c, Q, D, cy, A, kc, ks⟩ := E
  obtain ⟨hx, hb, hml, hown, hts, hK, hAp, hAA, hkc, hks, hfr, hlo⟩ := X
  intro hR H locs ls hP hS hl
  obtain ⟨kk, hkk⟩ := List.getElem?_of_mem (lvl_mem.mpr (show (some (.int (iI z)) :: r)[0]? = some (some (Value.int (iI z))) from rfl))
  refine lv_iinc (k := kk) (v := iI (z + n)) hx hb hdg hl.has hkk (iI_add z n) hn rfl (fun ls2 hl2 => ?_)
  exact k hR H locs ls2 hP hS (LV.put hl2 (fun v hv => Or.inl rfl))
theorem g_iload1 (X : Cx E ad cc nL own Ts fr lo) {a : Option Value} {r : List (Option Value)} {x : Int32} (hdg : decode cc pc = .ok (.iload_n 1, 1)) (k : WG E ad nL σ (pc + 1) (a :: some (.int x) :: r) (.int x :: st)) : WG E ad nL σ (pc) (a :: some (.int x) :: r) (st) := by
  obtain ⟨p, l, e, R, s, m, args, below, meth, c, Q, D, cy, A, kc, ks⟩ := E
  obtain ⟨hx, hb, hml, hown, hts, hK, hAp, hAA, hkc, hks, hfr, hlo⟩ := X
  intro hR H locs ls hP hS hl
  exact lv_iload_n hx hb hdg rfl (hl.2.2 1 _ rfl) (k hR H locs ls hP hS hl)
theorem g_aload1 (X : Cx E ad cc nL own Ts fr lo) {a : Option Value} {r : List (Option Value)} {x : Nat} (hdg : decode cc pc = .ok (.aload_n 1, 1)) (k : WG E ad nL σ (pc + 1) (a :: some (.ref x) :: r) (.ref x :: st)) : WG E ad nL σ (pc) (a :: some (.ref x) :: r) (st) := by
  obtain ⟨p, l, e, R, s, m, args, below, meth, c, Q, D, cy, A, kc, ks⟩ := E
  obtain ⟨hx, hb, hml, hown, hts, hK, hAp, hAA, hkc, hks, hfr, hlo⟩ := X
  intro hR H locs ls hP hS hl
  exact lv_aload_n hx hb hdg rfl (hl.2.2 1 _ rfl) (k hR H locs ls hP hS hl)
theorem g_istore1 (X : Cx E ad cc nL own Ts fr lo) {a : Option Value} {r : List (Option Value)} {u : Option Value} {x : Int32} (hdg : decode cc pc = .ok (.istore_n 1, 1)) (hn : 1 < nL) (hc : a = none ∨ ∃ v, a = some v ∧ v.category = 1) (k : WG E ad nL σ (pc + 1) (a :: some (.int x) :: r) (st)) : WG E ad nL σ (pc) (a :: u :: r) (.int x :: st) := by
  obtain ⟨p, l, e, R, s, m, args, below, meth, c, Q, D, cy, A, kc, ks⟩ := E
  obtain ⟨hx, hb, hml, hown, hts, hK, hAp, hAA, hkc, hks, hfr, hlo⟩ := X
  intro hR H locs ls hP hS hl
  refine lv_istore_n (i := 1) hx hb hdg rfl hl.has hn rfl (fun ls2 hl2 => ?_)
  exact k hR H locs ls2 hP hS (LV.put hl2 (fun v hv => Or.inr (by
        have e9 : a = some v := Option.some.inj hv
        rcases hc with h9 | ⟨v9, h9, h8⟩
        · rw [h9] at e9; cases e9
        · rw [h9] at e9; cases e9; exact h8)))
theorem g_astore1 (X : Cx E ad cc nL own Ts fr lo) {a : Option Value} {r : List (Option Value)} {u : Option Value} {x : Nat} (hdg : decode cc pc = .ok (.astore_n 1, 1)) (hn : 1 < nL) (hc : a = none ∨ ∃ v, a = some v ∧ v.category = 1) (k : WG E ad nL σ (pc + 1) (a :: some (.ref x) :: r) (st)) : WG E ad nL σ (pc) (a :: u :: r) (.ref x :: st) := by
  obtain ⟨p, l, e, R, s, m, args, below, meth, c, Q, D, cy, A, kc, ks⟩ := E
  obtain ⟨hx, hb, hml, hown, hts, hK, hAp, hAA, hkc, hks, hfr, hlo⟩ := X
  intro hR H locs ls hP hS hl
  refine lv_astore_n (i := 1) hx hb hdg rfl hl.has hn rfl (fun ls2 hl2 => ?_)
  exact k hR H locs ls2 hP hS (LV.put hl2 (fun v hv => Or.inr (by
        have e9 : a = some v := Option.some.inj hv
        rcases hc with h9 | ⟨v9, h9, h8⟩
        · rw [h9] at e9; cases e9
        · rw [h9] at e9; cases e9; exact h8)))
theorem g_iinc1 (X : Cx E ad cc nL own Ts fr lo) {a : Option Value} {r : List (Option Value)} {z n : Int} (hdg : decode cc pc = .ok (.iinc 1 n, 3)) (hn : 1 < nL) (hc : a = none ∨ ∃ v, a = some v ∧ v.category = 1) (k : WG E ad nL σ (pc + 3) (a :: some (.int (iI (z + n))) :: r) (st)) : WG E ad nL σ (pc) (a :: some (.int (iI z)) :: r) (st) := by
  obtain ⟨p, l, e, R, s, m, args, below, meth, c, Q, D, cy, A, kc, ks⟩ := E
  obtain ⟨hx, hb, hml, hown, hts, hK, hAp, hAA, hkc, hks, hfr, hlo⟩ := X
  intro hR H locs ls hP hS hl
  obtain ⟨kk, hkk⟩ := List.getElem?_of_mem (lvl_mem.mpr (show (a :: some (.int (iI z)) :: r)[1]? = some (some (Value.int (iI z))) from rfl))
  refine lv_iinc (k := kk) (v := iI (z + n)) hx hb hdg hl.has hkk (iI_add z n) hn rfl (fun ls2 hl2 => ?_)
  exact k hR H locs ls2 hP hS (LV.put hl2 (fun v hv => Or.inr (by
        have e9 : a = some v := Option.some.inj hv
        rcases hc with h9 | ⟨v9, h9, h8⟩
        · rw [h9] at e9; cases e9
        · rw [h9] at e9; cases e9; exact h8)))
theorem g_iload2 (X : Cx E ad cc nL own Ts fr lo) {a b : Option Value} {r : List (Option Value)} {x : Int32} (hdg : decode cc pc = .ok (.iload_n 2, 1)) (k : WG E ad nL σ (pc + 1) (a :: b :: some (.int x) :: r) (.int x :: st)) : WG E ad nL σ (pc) (a :: b :: some (.int x) :: r) (st) := by
  obtain ⟨p, l, e, R, s, m, args, below, meth, c, Q, D, cy, A, kc, ks⟩ := E
  obtain ⟨hx, hb, hml, hown, hts, hK, hAp, hAA, hkc, hks, hfr, hlo⟩ := X
  intro hR H locs ls hP hS hl
  exact lv_iload_n hx hb hdg rfl (hl.2.2 2 _ rfl) (k hR H locs ls hP hS hl)
theorem g_aload2 (X : Cx E ad cc nL own Ts fr lo) {a b : Option Value} {r : List (Option Value)} {x : Nat} (hdg : decode cc pc = .ok (.aload_n 2, 1)) (k : WG E ad nL σ (pc + 1) (a :: b :: some (.ref x) :: r) (.ref x :: st)) : WG E ad nL σ (pc) (a :: b :: some (.ref x) :: r) (st) := by
  obtain ⟨p, l, e, R, s, m, args, below, meth, c, Q, D, cy, A, kc, ks⟩ := E
  obtain ⟨hx, hb, hml, hown, hts, hK, hAp, hAA, hkc, hks, hfr, hlo⟩ := X
  intro hR H locs ls hP hS hl
  exact lv_aload_n hx hb hdg rfl (hl.2.2 2 _ rfl) (k hR H locs ls hP hS hl)
theorem g_istore2 (X : Cx E ad cc nL own Ts fr lo) {a b : Option Value} {r : List (Option Value)} {u : Option Value} {x : Int32} (hdg : decode cc pc = .ok (.istore_n 2, 1)) (hn : 2 < nL) (hc : b = none ∨ ∃ v, b = some v ∧ v.category = 1) (k : WG E ad nL σ (pc + 1) (a :: b :: some (.int x) :: r) (st)) : WG E ad nL σ (pc) (a :: b :: u :: r) (.int x :: st) := by
  obtain ⟨p, l, e, R, s, m, args, below, meth, c, Q, D, cy, A, kc, ks⟩ := E
  obtain ⟨hx, hb, hml, hown, hts, hK, hAp, hAA, hkc, hks, hfr, hlo⟩ := X
  intro hR H locs ls hP hS hl
  refine lv_istore_n (i := 2) hx hb hdg rfl hl.has hn rfl (fun ls2 hl2 => ?_)
  exact k hR H locs ls2 hP hS (LV.put hl2 (fun v hv => Or.inr (by
        have e9 : b = some v := Option.some.inj hv
        rcases hc with h9 | ⟨v9, h9, h8⟩
        · rw [h9] at e9; cases e9
        · rw [h9] at e9; cases e9; exact h8)))
theorem g_astore2 (X : Cx E ad cc nL own Ts fr lo) {a b : Option Value} {r : List (Option Value)} {u : Option Value} {x : Nat} (hdg : decode cc pc = .ok (.astore_n 2, 1)) (hn : 2 < nL) (hc : b = none ∨ ∃ v, b = some v ∧ v.category = 1) (k : WG E ad nL σ (pc + 1) (a :: b :: some (.ref x) :: r) (st)) : WG E ad nL σ (pc) (a :: b :: u :: r) (.ref x :: st) := by
  obtain ⟨p, l, e, R, s, m, args, below, meth, c, Q, D, cy, A, kc, ks⟩ := E
  obtain ⟨hx, hb, hml, hown, hts, hK, hAp, hAA, hkc, hks, hfr, hlo⟩ := X
  intro hR H locs ls hP hS hl
  refine lv_astore_n (i := 2) hx hb hdg rfl hl.has hn rfl (fun ls2 hl2 => ?_)
  exact k hR H locs ls2 hP hS (LV.put hl2 (fun v hv => Or.inr (by
        have e9 : b = some v := Option.some.inj hv
        rcases hc with h9 | ⟨v9, h9, h8⟩
        · rw [h9] at e9; cases e9
        · rw [h9] at e9; cases e9; exact h8)))
theorem g_iinc2 (X : Cx E ad cc nL own Ts fr lo) {a b : Option Value} {r : List (Option Value)} {z n : Int} (hdg : decode cc pc = .ok (.iinc 2 n, 3)) (hn : 2 < nL) (hc : b = none ∨ ∃ v, b = some v ∧ v.category = 1) (k : WG E ad nL σ (pc + 3) (a :: b :: some (.int (iI (z + n))) :: r) (st)) : WG E ad nL σ (pc) (a :: b :: some (.int (iI z)) :: r) (st) := by
  obtain ⟨p, l, e, R, s, m, args, below, meth, c, Q, D, cy, A, kc, ks⟩ := E
  obtain ⟨hx, hb, hml, hown, hts, hK, hAp, hAA, hkc, hks, hfr, hlo⟩ := X
  intro hR H locs ls hP hS hl
  obtain ⟨kk, hkk⟩ := List.getElem?_of_mem (lvl_mem.mpr (show (a :: b :: some (.int (iI z)) :: r)[2]? = some (some (Value.int (iI z))) from rfl))
  refine lv_iinc (k := kk) (v := iI (z + n)) hx hb hdg hl.has hkk (iI_add z n) hn rfl (fun ls2 hl2 => ?_)
  exact k hR H locs ls2 hP hS (LV.put hl2 (fun v hv => Or.inr (by
        have e9 : b = some v := Option.some.inj hv
        rcases hc with h9 | ⟨v9, h9, h8⟩
        · rw [h9] at e9; cases e9
        · rw [h9] at e9; cases e9; exact h8)))
theorem g_iload3 (X : Cx E ad cc nL own Ts fr lo) {a b d : Option Value} {r : List (Option Value)} {x : Int32} (hdg : decode cc pc = .ok (.iload_n 3, 1)) (k : WG E ad nL σ (pc + 1) (a :: b :: d :: some (.int x) :: r) (.int x :: st)) : WG E ad nL σ (pc) (a :: b :: d :: some (.int x) :: r) (st) := by
  obtain ⟨p, l, e, R, s, m, args, below, meth, c, Q, D, cy, A, kc, ks⟩ := E
  obtain ⟨hx, hb, hml, hown, hts, hK, hAp, hAA, hkc, hks, hfr, hlo⟩ := X
  intro hR H locs ls hP hS hl
  exact lv_iload_n hx hb hdg rfl (hl.2.2 3 _ rfl) (k hR H locs ls hP hS hl)
theorem g_lload3 (X : Cx E ad cc nL own Ts fr lo) {a b d : Option Value} {r : List (Option Value)} {x : Int64} (hdg : decode cc pc = .ok (.lload_n 3, 1)) (k : WG E ad nL σ (pc + 1) (a :: b :: d :: some (.long x) :: r) (.long x :: st)) : WG E ad nL σ (pc) (a :: b :: d :: some (.long x) :: r) (st) := by
  obtain ⟨p, l, e, R, s, m, args, below, meth, c, Q, D, cy, A, kc, ks⟩ := E
  obtain ⟨hx, hb, hml, hown, hts, hK, hAp, hAA, hkc, hks, hfr, hlo⟩ := X
  intro hR H locs ls hP hS hl
  exact lv_lload_n hx hb hdg rfl (hl.2.2 3 _ rfl) (k hR H locs ls hP hS hl)
theorem g_istore3 (X : Cx E ad cc nL own Ts fr lo) {a b d : Option Value} {r : List (Option Value)} {u : Option Value} {x : Int32} (hdg : decode cc pc = .ok (.istore_n 3, 1)) (hn : 3 < nL) (hc : d = none ∨ ∃ v, d = some v ∧ v.category = 1) (k : WG E ad nL σ (pc + 1) (a :: b :: d :: some (.int x) :: r) (st)) : WG E ad nL σ (pc) (a :: b :: d :: u :: r) (.int x :: st) := by
  obtain ⟨p, l, e, R, s, m, args, below, meth, c, Q, D, cy, A, kc, ks⟩ := E
  obtain ⟨hx, hb, hml, hown, hts, hK, hAp, hAA, hkc, hks, hfr, hlo⟩ := X
  intro hR H locs ls hP hS hl
  refine lv_istore_n (i := 3) hx hb hdg rfl hl.has hn rfl (fun ls2 hl2 => ?_)
  exact k hR H locs ls2 hP hS (LV.put hl2 (fun v hv => Or.inr (by
        have e9 : d = some v := Option.some.inj hv
        rcases hc with h9 | ⟨v9, h9, h8⟩
        · rw [h9] at e9; cases e9
        · rw [h9] at e9; cases e9; exact h8)))
theorem g_iinc3 (X : Cx E ad cc nL own Ts fr lo) {a b d : Option Value} {r : List (Option Value)} {z n : Int} (hdg : decode cc pc = .ok (.iinc 3 n, 3)) (hn : 3 < nL) (hc : d = none ∨ ∃ v, d = some v ∧ v.category = 1) (k : WG E ad nL σ (pc + 3) (a :: b :: d :: some (.int (iI (z + n))) :: r) (st)) : WG E ad nL σ (pc) (a :: b :: d :: some (.int (iI z)) :: r) (st) := by
  obtain ⟨p, l, e, R, s, m, args, below, meth, c, Q, D, cy, A, kc, ks⟩ := E
  obtain ⟨hx, hb, hml, hown, hts, hK, hAp, hAA, hkc, hks, hfr, hlo⟩ := X
  intro hR H locs ls hP hS hl
  obtain ⟨kk, hkk⟩ := List.getElem?_of_mem (lvl_mem.mpr (show (a :: b :: d :: some (.int (iI z)) :: r)[3]? = some (some (Value.int (iI z))) from rfl))
  refine lv_iinc (k := kk) (v := iI (z + n)) hx hb hdg hl.has hkk (iI_add z n) hn rfl (fun ls2 hl2 => ?_)
  exact k hR H locs ls2 hP hS (LV.put hl2 (fun v hv => Or.inr (by
        have e9 : d = some v := Option.some.inj hv
        rcases hc with h9 | ⟨v9, h9, h8⟩
        · rw [h9] at e9; cases e9
        · rw [h9] at e9; cases e9; exact h8)))
theorem g_iload4 (X : Cx E ad cc nL own Ts fr lo) {a b d f : Option Value} {r : List (Option Value)} {x : Int32} (hdg : decode cc pc = .ok (.iload 4, 2)) (k : WG E ad nL σ (pc + 2) (a :: b :: d :: f :: some (.int x) :: r) (.int x :: st)) : WG E ad nL σ (pc) (a :: b :: d :: f :: some (.int x) :: r) (st) := by
  obtain ⟨p, l, e, R, s, m, args, below, meth, c, Q, D, cy, A, kc, ks⟩ := E
  obtain ⟨hx, hb, hml, hown, hts, hK, hAp, hAA, hkc, hks, hfr, hlo⟩ := X
  intro hR H locs ls hP hS hl
  exact lv_iload hx hb hdg (hl.2.2 4 _ rfl) (k hR H locs ls hP hS hl)
theorem g_istore4 (X : Cx E ad cc nL own Ts fr lo) {a b d f : Option Value} {r : List (Option Value)} {u : Option Value} {x : Int32} (hdg : decode cc pc = .ok (.istore 4, 2)) (hn : 4 < nL) (hc : f = none ∨ ∃ v, f = some v ∧ v.category = 1) (k : WG E ad nL σ (pc + 2) (a :: b :: d :: f :: some (.int x) :: r) (st)) : WG E ad nL σ (pc) (a :: b :: d :: f :: u :: r) (.int x :: st) := by
  obtain ⟨p, l, e, R, s, m, args, below, meth, c, Q, D, cy, A, kc, ks⟩ := E
  obtain ⟨hx, hb, hml, hown, hts, hK, hAp, hAA, hkc, hks, hfr, hlo⟩ := X
  intro hR H locs ls hP hS hl
  refine lv_istore (i := 4) hx hb hdg hl.has hn rfl (fun ls2 hl2 => ?_)
  exact k hR H locs ls2 hP hS (LV.put hl2 (fun v hv => Or.inr (by
        have e9 : f = some v := Option.some.inj hv
        rcases hc with h9 | ⟨v9, h9, h8⟩
        · rw [h9] at e9; cases e9
        · rw [h9] at e9; cases e9; exact h8)))
theorem g_iinc4 (X : Cx E ad cc nL own Ts fr lo) {a b d f : Option Value} {r : List (Option Value)} {z n : Int} (hdg : decode cc pc = .ok (.iinc 4 n, 3)) (hn : 4 < nL) (hc : f = none ∨ ∃ v, f = some v ∧ v.category = 1) (k : WG E ad nL σ (pc + 3) (a :: b :: d :: f :: some (.int (iI (z + n))) :: r) (st)) : WG E ad nL σ (pc) (a :: b :: d :: f :: some (.int (iI z)) :: r) (st) := by
  obtain ⟨p, l, e, R, s, m, args, below, meth, c, Q, D, cy, A, kc, ks⟩ := E
  obtain ⟨hx, hb, hml, hown, hts, hK, hAp, hAA, hkc, hks, hfr, hlo⟩ := X
  intro hR H locs ls hP hS hl
  obtain ⟨kk, hkk⟩ := List.getElem?_of_mem (lvl_mem.mpr (show (a :: b :: d :: f :: some (.int (iI z)) :: r)[4]? = some (some (Value.int (iI z))) from rfl))
  refine lv_iinc (k := kk) (v := iI (z + n)) hx hb hdg hl.has hkk (iI_add z n) hn rfl (fun ls2 hl2 => ?_)
  exact k hR H locs ls2 hP hS (LV.put hl2 (fun v hv => Or.inr (by
        have e9 : f = some v := Option.some.inj hv
        rcases hc with h9 | ⟨v9, h9, h8⟩
        · rw [h9] at e9; cases e9
        · rw [h9] at e9; cases e9; exact h8)))
theorem g_iload5 (X : Cx E ad cc nL own Ts fr lo) {a b d f g : Option Value} {r : List (Option Value)} {x : Int32} (hdg : decode cc pc = .ok (.iload 5, 2)) (k : WG E ad nL σ (pc + 2) (a :: b :: d :: f :: g :: some (.int x) :: r) (.int x :: st)) : WG E ad nL σ (pc) (a :: b :: d :: f :: g :: some (.int x) :: r) (st) := by
  obtain ⟨p, l, e, R, s, m, args, below, meth, c, Q, D, cy, A, kc, ks⟩ := E
  obtain ⟨hx, hb, hml, hown, hts, hK, hAp, hAA, hkc, hks, hfr, hlo⟩ := X
  intro hR H locs ls hP hS hl
  exact lv_iload hx hb hdg (hl.2.2 5 _ rfl) (k hR H locs ls hP hS hl)
theorem g_istore5 (X : Cx E ad cc nL own Ts fr lo) {a b d f g : Option Value} {r : List (Option Value)} {u : Option Value} {x : Int32} (hdg : decode cc pc = .ok (.istore 5, 2)) (hn : 5 < nL) (hc : g = none ∨ ∃ v, g = some v ∧ v.category = 1) (k : WG E ad nL σ (pc + 2) (a :: b :: d :: f :: g :: some (.int x) :: r) (st)) : WG E ad nL σ (pc) (a :: b :: d :: f :: g :: u :: r) (.int x :: st) := by
  obtain ⟨p, l, e, R, s, m, args, below, meth, c, Q, D, cy, A, kc, ks⟩ := E
  obtain ⟨hx, hb, hml, hown, hts, hK, hAp, hAA, hkc, hks, hfr, hlo⟩ := X
  intro hR H locs ls hP hS hl
  refine lv_istore (i := 5) hx hb hdg hl.has hn rfl (fun ls2 hl2 => ?_)
  exact k hR H locs ls2 hP hS (LV.put hl2 (fun v hv => Or.inr (by
        have e9 : g = some v := Option.some.inj hv
        rcases hc with h9 | ⟨v9, h9, h8⟩
        · rw [h9] at e9; cases e9
        · rw [h9] at e9; cases e9; exact h8)))
theorem g_iinc5 (X : Cx E ad cc nL own Ts fr lo) {a b d f g : Option Value} {r : List (Option Value)} {z n : Int} (hdg : decode cc pc = .ok (.iinc 5 n, 3)) (hn : 5 < nL) (hc : g = none ∨ ∃ v, g = some v ∧ v.category = 1) (k : WG E ad nL σ (pc + 3) (a :: b :: d :: f :: g :: some (.int (iI (z + n))) :: r) (st)) : WG E ad nL σ (pc) (a :: b :: d :: f :: g :: some (.int (iI z)) :: r) (st) := by
  obtain ⟨p, l, e, R, s, m, args, below, meth, c, Q, D, cy, A, kc, ks⟩ := E
  obtain ⟨hx, hb, hml, hown, hts, hK, hAp, hAA, hkc, hks, hfr, hlo⟩ := X
  intro hR H locs ls hP hS hl
  obtain ⟨kk, hkk⟩ := List.getElem?_of_mem (lvl_mem.mpr (show (a :: b :: d :: f :: g :: some (.int (iI z)) :: r)[5]? = some (some (Value.int (iI z))) from rfl))
  refine lv_iinc (k := kk) (v := iI (z + n)) hx hb hdg hl.has hkk (iI_add z n) hn rfl (fun ls2 hl2 => ?_)
  exact k hR H locs ls2 hP hS (LV.put hl2 (fun v hv => Or.inr (by
        have e9 : g = some v := Option.some.inj hv
        rcases hc with h9 | ⟨v9, h9, h8⟩
        · rw [h9] at e9; cases e9
        · rw [h9] at e9; cases e9; exact h8)))
theorem g_iload6 (X : Cx E ad cc nL own Ts fr lo) {a b d f g h : Option Value} {r : List (Option Value)} {x : Int32} (hdg : decode cc pc = .ok (.iload 6, 2)) (k : WG E ad nL σ (pc + 2) (a :: b :: d :: f :: g :: h :: some (.int x) :: r) (.int x :: st)) : WG E ad nL σ (pc) (a :: b :: d :: f :: g :: h :: some (.int x) :: r) (st) := by
  obtain ⟨p, l, e, R, s, m, args, below, meth, c, Q, D, cy, A, kc, ks⟩ := E
  obtain ⟨hx, hb, hml, hown, hts, hK, hAp, hAA, hkc, hks, hfr, hlo⟩ := X
  intro hR H locs ls hP hS hl
  exact lv_iload hx hb hdg (hl.2.2 6 _ rfl) (k hR H locs ls hP hS hl)
theorem g_istore6 (X : Cx E ad cc nL own Ts fr lo) {a b d f g h : Option Value} {r : List (Option Value)} {u : Option Value} {x : Int32} (hdg : decode cc pc = .ok (.istore 6, 2)) (hn : 6 < nL) (hc : h = none ∨ ∃ v, h = some v ∧ v.category = 1) (k : WG E ad nL σ (pc + 2) (a :: b :: d :: f :: g :: h :: some (.int x) :: r) (st)) : WG E ad nL σ (pc) (a :: b :: d :: f :: g :: h :: u :: r) (.int x :: st) := by
  obtain ⟨p, l, e, R, s, m, args, below, meth, c, Q, D, cy, A, kc, ks⟩ := E
  obtain ⟨hx, hb, hml, hown, hts, hK, hAp, hAA, hkc, hks, hfr, hlo⟩ := X
  intro hR H locs ls hP hS hl
  refine lv_istore (i := 6) hx hb hdg hl.has hn rfl (fun ls2 hl2 => ?_)
  exact k hR H locs ls2 hP hS (LV.put hl2 (fun v hv => Or.inr (by
        have e9 : h = some v := Option.some.inj hv
        rcases hc with h9 | ⟨v9, h9, h8⟩
        · rw [h9] at e9; cases e9
        · rw [h9] at e9; cases e9; exact h8)))
theorem g_iinc6 (X : Cx E ad cc nL own Ts fr lo) {a b d f g h : Option Value} {r : List (Option Value)} {z n : Int} (hdg : decode cc pc = .ok (.iinc 6 n, 3)) (hn : 6 < nL) (hc : h = none ∨ ∃ v, h = some v ∧ v.category = 1) (k : WG E ad nL σ (pc + 3) (a :: b :: d :: f :: g :: h :: some (.int (iI (z + n))) :: r) (st)) : WG E ad nL σ (pc) (a :: b :: d :: f :: g :: h :: some (.int (iI z)) :: r) (st) := by
  obtain ⟨p, l, e, R, s, m, args, below, meth, c, Q, D, cy, A, kc, ks⟩ := E
  obtain ⟨hx, hb, hml, hown, hts, hK, hAp, hAA, hkc, hks, hfr, hlo⟩ := X
  intro hR H locs ls hP hS hl
  obtain ⟨kk, hkk⟩ := List.getElem?_of_mem (lvl_mem.mpr (show (a :: b :: d :: f :: g :: h :: some (.int (iI z)) :: r)[6]? = some (some (Value.int (iI z))) from rfl))
  refine lv_iinc (k := kk) (v := iI (z + n)) hx hb hdg hl.has hkk (iI_add z n) hn rfl (fun ls2 hl2 => ?_)
  exact k hR H locs ls2 hP hS (LV.put hl2 (fun v hv => Or.inr (by
        have e9 : h = some v := Option.some.inj hv
        rcases hc with h9 | ⟨v9, h9, h8⟩
        · rw [h9] at e9; cases e9
        · rw [h9] at e9; cases e9; exact h8)))
theorem g_iload7 (X : Cx E ad cc nL own Ts fr lo) {a b d f g h i : Option Value} {r : List (Option Value)} {x : Int32} (hdg : decode cc pc = .ok (.iload 7, 2)) (k : WG E ad nL σ (pc + 2) (a :: b :: d :: f :: g :: h :: i :: some (.int x) :: r) (.int x :: st)) : WG E ad nL σ (pc) (a :: b :: d :: f :: g :: h :: i :: some (.int x) :: r) (st) := by
  obtain ⟨p, l, e, R, s, m, args, below, meth, c, Q, D, cy, A, kc, ks⟩ := E
  obtain ⟨hx, hb, hml, hown, hts, hK, hAp, hAA, hkc, hks, hfr, hlo⟩ := X
  intro hR H locs ls hP hS hl
  exact lv_iload hx hb hdg (hl.2.2 7 _ rfl) (k hR H locs ls hP hS hl)
theorem g_istore7 (X : Cx E ad cc nL own Ts fr lo) {a b d f g h i : Option Value} {r : List (Option Value)} {u : Option Value} {x : Int32} (hdg : decode cc pc = .ok (.istore 7, 2)) (hn : 7 < nL) (hc : i = none ∨ ∃ v, i = some v ∧ v.category = 1) (k : WG E ad nL σ (pc + 2) (a :: b :: d :: f :: g :: h :: i :: some (.int x) :: r) (st)) : WG E ad nL σ (pc) (a :: b :: d :: f :: g :: h :: i :: u :: r) (.int x :: st) := by
  obtain ⟨p, l, e, R, s, m, args, below, meth, c, Q, D, cy, A, kc, ks⟩ := E
  obtain ⟨hx, hb, hml, hown, hts, hK, hAp, hAA, hkc, hks, hfr, hlo⟩ := X
  intro hR H locs ls hP hS hl
  refine lv_istore (i := 7) hx hb hdg hl.has hn rfl (fun ls2 hl2 => ?_)
  exact k hR H locs ls2 hP hS (LV.put hl2 (fun v hv => Or.inr (by
        have e9 : i = some v := Option.some.inj hv
        rcases hc with h9 | ⟨v9, h9, h8⟩
        · rw [h9] at e9; cases e9
        · rw [h9] at e9; cases e9; exact h8)))
theorem g_iinc7 (X : Cx E ad cc nL own Ts fr lo) {a b d f g h i : Option Value} {r : List (Option Value)} {z n : Int} (hdg : decode cc pc = .ok (.iinc 7 n, 3)) (hn : 7 < nL) (hc : i = none ∨ ∃ v, i = some v ∧ v.category = 1) (k : WG E ad nL σ (pc + 3) (a :: b :: d :: f :: g :: h :: i :: some (.int (iI (z + n))) :: r) (st)) : WG E ad nL σ (pc) (a :: b :: d :: f :: g :: h :: i :: some (.int (iI z)) :: r) (st) := by
  obtain ⟨p, l, e, R, s, m, args, below, meth, c, Q, D, cy, A, kc, ks⟩ := E
  obtain ⟨hx, hb, hml, hown, hts, hK, hAp, hAA, hkc, hks, hfr, hlo⟩ := X
  intro hR H locs ls hP hS hl
  obtain ⟨kk, hkk⟩ := List.getElem?_of_mem (lvl_mem.mpr (show (a :: b :: d :: f :: g :: h :: i :: some (.int (iI z)) :: r)[7]? = some (some (Value.int (iI z))) from rfl))
  refine lv_iinc (k := kk) (v := iI (z + n)) hx hb hdg hl.has hkk (iI_add z n) hn rfl (fun ls2 hl2 => ?_)
  exact k hR H locs ls2 hP hS (LV.put hl2 (fun v hv => Or.inr (by
        have e9 : i = some v := Option.some.inj hv
        rcases hc with h9 | ⟨v9, h9, h8⟩
        · rw [h9] at e9; cases e9
        · rw [h9] at e9; cases e9; exact h8)))
theorem g_iload8 (X : Cx E ad cc nL own Ts fr lo) {a b d f g h i j : Option Value} {r : List (Option Value)} {x : Int32} (hdg : decode cc pc = .ok (.iload 8, 2)) (k : WG E ad nL σ (pc + 2) (a :: b :: d :: f :: g :: h :: i :: j :: some (.int x) :: r) (.int x :: st)) : WG E ad nL σ (pc) (a :: b :: d :: f :: g :: h :: i :: j :: some (.int x) :: r) (st) := by
  obtain ⟨p, l, e, R, s, m, args, below, meth, c, Q, D, cy, A, kc, ks⟩ := E
  obtain ⟨hx, hb, hml, hown, hts, hK, hAp, hAA, hkc, hks, hfr, hlo⟩ := X
  intro hR H locs ls hP hS hl
  exact lv_iload hx hb hdg (hl.2.2 8 _ rfl) (k hR H locs ls hP hS hl)
theorem g_istore8 (X : Cx E ad cc nL own Ts fr lo) {a b d f g h i j : Option Value} {r : List (Option Value)} {u : Option Value} {x : Int32} (hdg : decode cc pc = .ok (.istore 8, 2)) (hn : 8 < nL) (hc : j = none ∨ ∃ v, j = some v ∧ v.category = 1) (k : WG E ad nL σ (pc + 2) (a :: b :: d :: f :: g :: h :: i :: j :: some (.int x) :: r) (st)) : WG E ad nL σ (pc) (a :: b :: d :: f :: g :: h :: i :: j :: u :: r) (.int x :: st) := by
  obtain ⟨p, l, e, R, s, m, args, below, meth, c, Q, D, cy, A, kc, ks⟩ := E
  obtain ⟨hx, hb, hml, hown, hts, hK, hAp, hAA, hkc, hks, hfr, hlo⟩ := X
  intro hR H locs ls hP hS hl
  refine lv_istore (i := 8) hx hb hdg hl.has hn rfl (fun ls2 hl2 => ?_)
  exact k hR H locs ls2 hP hS (LV.put hl2 (fun v hv => Or.inr (by
        have e9 : j = some v := Option.some.inj hv
        rcases hc with h9 | ⟨v9, h9, h8⟩
        · rw [h9] at e9; cases e9
        · rw [h9] at e9; cases e9; exact h8)))
theorem g_iinc8 (X : Cx E ad cc nL own Ts fr lo) {a b d f g h i j : Option Value} {r : List (Option Value)} {z n : Int} (hdg : decode cc pc = .ok (.iinc 8 n, 3)) (hn : 8 < nL) (hc : j = none ∨ ∃ v, j = some v ∧ v.category = 1) (k : WG E ad nL σ (pc + 3) (a :: b :: d :: f :: g :: h :: i :: j :: some (.int (iI (z + n))) :: r) (st)) : WG E ad nL σ (pc) (a :: b :: d :: f :: g :: h :: i :: j :: some (.int (iI z)) :: r) (st) := by
  obtain ⟨p, l, e, R, s, m, args, below, meth, c, Q, D, cy, A, kc, ks⟩ := E
  obtain ⟨hx, hb, hml, hown, hts, hK, hAp, hAA, hkc, hks, hfr, hlo⟩ := X
  intro hR H locs ls hP hS hl
  obtain ⟨kk, hkk⟩ := List.getElem?_of_mem (lvl_mem.mpr (show (a :: b :: d :: f :: g :: h :: i :: j :: some (.int (iI z)) :: r)[8]? = some (some (Value.int (iI z))) from rfl))
  refine lv_iinc (k := kk) (v := iI (z + n)) hx hb hdg hl.has hkk (iI_add z n) hn rfl (fun ls2 hl2 => ?_)
  exact k hR H locs ls2 hP hS (LV.put hl2 (fun v hv => Or.inr (by
        have e9 : j = some v := Option.some.inj hv
        rcases hc with h9 | ⟨v9, h9, h8⟩
        · rw [h9] at e9; cases e9
        · rw [h9] at e9; cases e9; exact h8)))
theorem g_iadd (X : Cx E ad cc nL own Ts fr lo) {a b : Int} (hdg : decode cc pc = .ok (.iadd, 1)) (k : WG E ad nL σ (pc + 1) lv (.int (iI (a + b)) :: st)) : WG E ad nL σ (pc) lv (.int (iI b) :: .int (iI a) :: st) := by
  obtain ⟨p, l, e, R, s, m, args, below, meth, c, Q, D, cy, A, kc, ks⟩ := E
  obtain ⟨hx, hb, hml, hown, hts, hK, hAp, hAA, hkc, hks, hfr, hlo⟩ := X
  intro hR H locs ls hP hS hl
  refine lv_iadd hx hb hdg ?_
  rw [iI_add]
  exact k hR H locs ls hP hS hl
theorem g_isub (X : Cx E ad cc nL own Ts fr lo) {a b : Int} (hdg : decode cc pc = .ok (.isub, 1)) (k : WG E ad nL σ (pc + 1) lv (.int (iI (a - b)) :: st)) : WG E ad nL σ (pc) lv (.int (iI b) :: .int (iI a) :: st) := by
  obtain ⟨p, l, e, R, s, m, args, below, meth, c, Q, D, cy, A, kc, ks⟩ := E
  obtain ⟨hx, hb, hml, hown, hts, hK, hAp, hAA, hkc, hks, hfr, hlo⟩ := X
  intro hR H locs ls hP hS hl
  refine lv_isub hx hb hdg ?_
  rw [iI_sub]
  exact k hR H locs ls hP hS hl
theorem g_imul (X : Cx E ad cc nL own Ts fr lo) {a b : Int} (hdg : decode cc pc = .ok (.imul, 1)) (k : WG E ad nL σ (pc + 1) lv (.int (iI (a * b)) :: st)) : WG E ad nL σ (pc) lv (.int (iI b) :: .int (iI a) :: st) := by
  obtain ⟨p, l, e, R, s, m, args, below, meth, c, Q, D, cy, A, kc, ks⟩ := E
  obtain ⟨hx, hb, hml, hown, hts, hK, hAp, hAA, hkc, hks, hfr, hlo⟩ := X
  intro hR H locs ls hP hS hl
  refine lv_imul hx hb hdg ?_
  rw [iI_mul]
  exact k hR H locs ls hP hS hl
theorem g_ineg (X : Cx E ad cc nL own Ts fr lo) {a : Int} (hdg : decode cc pc = .ok (.ineg, 1)) (k : WG E ad nL σ (pc + 1) lv (.int (iI (-a)) :: st)) : WG E ad nL σ (pc) lv (.int (iI a) :: st) := by
  obtain ⟨p, l, e, R, s, m, args, below, meth, c, Q, D, cy, A, kc, ks⟩ := E
  obtain ⟨hx, hb, hml, hown, hts, hK, hAp, hAA, hkc, hks, hfr, hlo⟩ := X
  intro hR H locs ls hP hS hl
  refine lv_ineg hx hb hdg ?_
  rw [iI_neg]
  exact k hR H locs ls hP hS hl
theorem g_iand (X : Cx E ad cc nL own Ts fr lo) {a b z : Int} (hz : iI a &&& iI b = iI z) (hdg : decode cc pc = .ok (.iand, 1)) (k : WG E ad nL σ (pc + 1) lv (.int (iI z) :: st)) : WG E ad nL σ (pc) lv (.int (iI b) :: .int (iI a) :: st) := by
  obtain ⟨p, l, e, R, s, m, args, below, meth, c, Q, D, cy, A, kc, ks⟩ := E
  obtain ⟨hx, hb, hml, hown, hts, hK, hAp, hAA, hkc, hks, hfr, hlo⟩ := X
  intro hR H locs ls hP hS hl
  refine lv_iand hx hb hdg ?_
  rw [hz]
  exact k hR H locs ls hP hS hl
theorem g_ior (X : Cx E ad cc nL own Ts fr lo) {a b z : Int} (hz : iI a ||| iI b = iI z) (hdg : decode cc pc = .ok (.ior, 1)) (k : WG E ad nL σ (pc + 1) lv (.int (iI z) :: st)) : WG E ad nL σ (pc) lv (.int (iI b) :: .int (iI a) :: st) := by
  obtain ⟨p, l, e, R, s, m, args, below, meth, c, Q, D, cy, A, kc, ks⟩ := E
  obtain ⟨hx, hb, hml, hown, hts, hK, hAp, hAA, hkc, hks, hfr, hlo⟩ := X
  intro hR H locs ls hP hS hl
  refine lv_ior hx hb hdg ?_
  rw [hz]
  exact k hR H locs ls hP hS hl
theorem g_ixor (X : Cx E ad cc nL own Ts fr lo) {a b z : Int} (hz : iI a ^^^ iI b = iI z) (hdg : decode cc pc = .ok (.ixor, 1)) (k : WG E ad nL σ (pc + 1) lv (.int (iI z) :: st)) : WG E ad nL σ (pc) lv (.int (iI b) :: .int (iI a) :: st) := by
  obtain ⟨p, l, e, R, s, m, args, below, meth, c, Q, D, cy, A, kc, ks⟩ := E
  obtain ⟨hx, hb, hml, hown, hts, hK, hAp, hAA, hkc, hks, hfr, hlo⟩ := X
  intro hR H locs ls hP hS hl
  refine lv_ixor hx hb hdg ?_
  rw [hz]
  exact k hR H locs ls hP hS hl
theorem g_ishl (X : Cx E ad cc nL own Ts fr lo) {a b z : Int} (hz : iI a <<< (iI b &&& 31) = iI z) (hdg : decode cc pc = .ok (.ishl, 1)) (k : WG E ad nL σ (pc + 1) lv (.int (iI z) :: st)) : WG E ad nL σ (pc) lv (.int (iI b) :: .int (iI a) :: st) := by
  obtain ⟨p, l, e, R, s, m, args, below, meth, c, Q, D, cy, A, kc, ks⟩ := E
  obtain ⟨hx, hb, hml, hown, hts, hK, hAp, hAA, hkc, hks, hfr, hlo⟩ := X
  intro hR H locs ls hP hS hl
  refine lv_ishl hx hb hdg ?_
  rw [hz]
  exact k hR H locs ls hP hS hl
theorem g_ishr (X : Cx E ad cc nL own Ts fr lo) {a b z : Int} (hz : iI a >>> (iI b &&& 31) = iI z) (hdg : decode cc pc = .ok (.ishr, 1)) (k : WG E ad nL σ (pc + 1) lv (.int (iI z) :: st)) : WG E ad nL σ (pc) lv (.int (iI b) :: .int (iI a) :: st) := by
  obtain ⟨p, l, e, R, s, m, args, below, meth, c, Q, D, cy, A, kc, ks⟩ := E
  obtain ⟨hx, hb, hml, hown, hts, hK, hAp, hAA, hkc, hks, hfr, hlo⟩ := X
  intro hR H locs ls hP hS hl
  refine lv_ishr hx hb hdg ?_
  rw [hz]
  exact k hR H locs ls hP hS hl
theorem g_iushr (X : Cx E ad cc nL own Ts fr lo) {a b z : Int} (hz : ((iI a).toUInt32 >>> ((iI b).toUInt32 &&& Int32.toUInt32 31)).toInt32 = iI z) (hdg : decode cc pc = .ok (.iushr, 1)) (k : WG E ad nL σ (pc + 1) lv (.int (iI z) :: st)) : WG E ad nL σ (pc) lv (.int (iI b) :: .int (iI a) :: st) := by
  obtain ⟨p, l, e, R, s, m, args, below, meth, c, Q, D, cy, A, kc, ks⟩ := E
  obtain ⟨hx, hb, hml, hown, hts, hK, hAp, hAA, hkc, hks, hfr, hlo⟩ := X
  intro hR H locs ls hP hS hl
  exact lv_iushr hx hb hdg hz (k hR H locs ls hP hS hl)
theorem g_i2l (X : Cx E ad cc nL own Ts fr lo) {x : Int32} (hdg : decode cc pc = .ok (.i2l, 1)) (k : WG E ad nL σ (pc + 1) lv (.long x.toInt64 :: st)) : WG E ad nL σ (pc) lv (.int x :: st) := by
  obtain ⟨p, l, e, R, s, m, args, below, meth, c, Q, D, cy, A, kc, ks⟩ := E
  obtain ⟨hx, hb, hml, hown, hts, hK, hAp, hAA, hkc, hks, hfr, hlo⟩ := X
  intro hR H locs ls hP hS hl
  exact lv_i2l hx hb hdg rfl (k hR H locs ls hP hS hl)
theorem g_l2i (X : Cx E ad cc nL own Ts fr lo) {x : Int64} (hdg : decode cc pc = .ok (.l2i, 1)) (k : WG E ad nL σ (pc + 1) lv (.int x.toInt32 :: st)) : WG E ad nL σ (pc) lv (.long x :: st) := by
  obtain ⟨p, l, e, R, s, m, args, below, meth, c, Q, D, cy, A, kc, ks⟩ := E
  obtain ⟨hx, hb, hml, hown, hts, hK, hAp, hAA, hkc, hks, hfr, hlo⟩ := X
  intro hR H locs ls hP hS hl
  exact lv_l2i hx hb hdg rfl (k hR H locs ls hP hS hl)
theorem g_lmul (X : Cx E ad cc nL own Ts fr lo) {x y : Int64} (hdg : decode cc pc = .ok (.lmul, 1)) (k : WG E ad nL σ (pc + 1) lv (.long (x * y) :: st)) : WG E ad nL σ (pc) lv (.long y :: .long x :: st) := by
  obtain ⟨p, l, e, R, s, m, args, below, meth, c, Q, D, cy, A, kc, ks⟩ := E
  obtain ⟨hx, hb, hml, hown, hts, hK, hAp, hAA, hkc, hks, hfr, hlo⟩ := X
  intro hR H locs ls hP hS hl
  exact lv_lmul hx hb hdg (k hR H locs ls hP hS hl)
theorem g_lcmp (X : Cx E ad cc nL own Ts fr lo) {x y : Int64} (hdg : decode cc pc = .ok (.lcmp, 1)) (k : WG E ad nL σ (pc + 1) lv (.int (lg_cmp x y) :: st)) : WG E ad nL σ (pc) lv (.long y :: .long x :: st) := by
  obtain ⟨p, l, e, R, s, m, args, below, meth, c, Q, D, cy, A, kc, ks⟩ := E
  obtain ⟨hx, hb, hml, hown, hts, hK, hAp, hAA, hkc, hks, hfr, hlo⟩ := X
  intro hR H locs ls hP hS hl
  exact W.lcmp hx hb hdg (k hR H locs ls hP hS hl)
theorem g_i2c (X : Cx E ad cc nL own Ts fr lo) {z : Int} (hz : 0 ≤ z ∧ z < 65536) (hdg : decode cc pc = .ok (.i2c, 1)) (k : WG E ad nL σ (pc + 1) lv (.int (iI z) :: st)) : WG E ad nL σ (pc) lv (.int (iI z) :: st) := by
  obtain ⟨p, l, e, R, s, m, args, below, meth, c, Q, D, cy, A, kc, ks⟩ := E
  obtain ⟨hx, hb, hml, hown, hts, hK, hAp, hAA, hkc, hks, hfr, hlo⟩ := X
  intro hR H locs ls hP hS hl
  refine lv_i2c hx hb hdg (lg_i2c_word ?_ ?_) (k hR H locs ls hP hS hl)
  · rw [iI_toInt ⟨by omega, by omega⟩]; exact hz.1
  · rw [iI_toInt ⟨by omega, by omega⟩]; exact hz.2
theorem g_goto (X : Cx E ad cc nL own Ts fr lo) {off : Int} {tgt : Nat} (hdg : decode cc pc = .ok (.goto off, 3)) (ht : (pc : Int) + off = (tgt : Int)) (k : WG E ad nL σ (tgt) lv (st)) : WG E ad nL σ (pc) lv (st) := by
  obtain ⟨p, l, e, R, s, m, args, below, meth, c, Q, D, cy, A, kc, ks⟩ := E
  obtain ⟨hx, hb, hml, hown, hts, hK, hAp, hAA, hkc, hks, hfr, hlo⟩ := X
  intro hR H locs ls hP hS hl
  exact lv_goto hx hb hdg ht (k hR H locs ls hP hS hl)
theorem g_icmp_eq (X : Cx E ad cc nL own Ts fr lo) {a b off : Int} {tgt : Nat} (ha : InR a) (hb0 : InR b) (hdg : decode cc pc = .ok (.if_icmp .eq off, 3)) (ht : (pc : Int) + off = (tgt : Int)) (k1 : a = b → WG E ad nL σ (tgt) lv (st)) (k2 : ¬ a = b → WG E ad nL σ (pc + 3) lv (st)) : WG E ad nL σ (pc) lv (.int (iI b) :: .int (iI a) :: st) := by
  obtain ⟨p, l, e, R, s, m, args, below, meth, c, Q, D, cy, A, kc, ks⟩ := E
  obtain ⟨hx, hb, hml, hown, hts, hK, hAp, hAA, hkc, hks, hfr, hlo⟩ := X
  intro hR H locs ls hP hS hl
  exact lv_icmp_eq hx hb hdg ht (fun h9 => k1 ((iI_eq ha hb0).mp h9) hR H locs ls hP hS hl) (fun h9 => k2 (fun q9 => h9 ((iI_eq ha hb0).mpr q9)) hR H locs ls hP hS hl)
theorem g_if_eq (X : Cx E ad cc nL own Ts fr lo) {a off : Int} {tgt : Nat} (ha : InR a) (hdg : decode cc pc = .ok (.ifCond .eq off, 3)) (ht : (pc : Int) + off = (tgt : Int)) (k1 : a = 0 → WG E ad nL σ (tgt) lv (st)) (k2 : ¬ a = 0 → WG E ad nL σ (pc + 3) lv (st)) : WG E ad nL σ (pc) lv (.int (iI a) :: st) := by
  obtain ⟨p, l, e, R, s, m, args, below, meth, c, Q, D, cy, A, kc, ks⟩ := E
  obtain ⟨hx, hb, hml, hown, hts, hK, hAp, hAA, hkc, hks, hfr, hlo⟩ := X
  intro hR H locs ls hP hS hl
  exact lv_if_eq hx hb hdg ht (fun h9 => k1 ((iI_eq ha InR_0).mp h9) hR H locs ls hP hS hl) (fun h9 => k2 (fun q9 => h9 ((iI_eq ha InR_0).mpr q9)) hR H locs ls hP hS hl)
theorem g_icmp_ne (X : Cx E ad cc nL own Ts fr lo) {a b off : Int} {tgt : Nat} (ha : InR a) (hb0 : InR b) (hdg : decode cc pc = .ok (.if_icmp .ne off, 3)) (ht : (pc : Int) + off = (tgt : Int)) (k1 : ¬ a = b → WG E ad nL σ (tgt) lv (st)) (k2 : a = b → WG E ad nL σ (pc + 3) lv (st)) : WG E ad nL σ (pc) lv (.int (iI b) :: .int (iI a) :: st) := by
  obtain ⟨p, l, e, R, s, m, args, below, meth, c, Q, D, cy, A, kc, ks⟩ := E
  obtain ⟨hx, hb, hml, hown, hts, hK, hAp, hAA, hkc, hks, hfr, hlo⟩ := X
  intro hR H locs ls hP hS hl
  exact lv_icmp_ne hx hb hdg ht (fun h9 => k1 (fun q9 => h9 ((iI_eq ha hb0).mpr q9)) hR H locs ls hP hS hl) (fun h9 => k2 ((iI_eq ha hb0).mp h9) hR H locs ls hP hS hl)
theorem g_if_ne (X : Cx E ad cc nL own Ts fr lo) {a off : Int} {tgt : Nat} (ha : InR a) (hdg : decode cc pc = .ok (.ifCond .ne off, 3)) (ht : (pc : Int) + off = (tgt : Int)) (k1 : ¬ a = 0 → WG E ad nL σ (tgt) lv (st)) (k2 : a = 0 → WG E ad nL σ (pc + 3) lv (st)) : WG E ad nL σ (pc) lv (.int (iI a) :: st) := by
  obtain ⟨p, l, e, R, s, m, args, below, meth, c, Q, D, cy, A, kc, ks⟩ := E
  obtain ⟨hx, hb, hml, hown, hts, hK, hAp, hAA, hkc, hks, hfr, hlo⟩ := X
  intro hR H locs ls hP hS hl
  exact lv_if_ne hx hb hdg ht (fun h9 => k1 (fun q9 => h9 ((iI_eq ha InR_0).mpr q9)) hR H locs ls hP hS hl) (fun h9 => k2 ((iI_eq ha InR_0).mp h9) hR H locs ls hP hS hl)
theorem g_icmp_lt (X : Cx E ad cc nL own Ts fr lo) {a b off : Int} {tgt : Nat} (ha : InR a) (hb0 : InR b) (hdg : decode cc pc = .ok (.if_icmp .lt off, 3)) (ht : (pc : Int) + off = (tgt : Int)) (k1 : a < b → WG E ad nL σ (tgt) lv (st)) (k2 : ¬ a < b → WG E ad nL σ (pc + 3) lv (st)) : WG E ad nL σ (pc) lv (.int (iI b) :: .int (iI a) :: st) := by
  obtain ⟨p, l, e, R, s, m, args, below, meth, c, Q, D, cy, A, kc, ks⟩ := E
  obtain ⟨hx, hb, hml, hown, hts, hK, hAp, hAA, hkc, hks, hfr, hlo⟩ := X
  intro hR H locs ls hP hS hl
  exact lv_icmp_lt hx hb hdg ht (fun h9 => k1 ((iI_lt ha hb0).mp h9) hR H locs ls hP hS hl) (fun h9 => k2 (fun q9 => h9 ((iI_lt ha hb0).mpr q9)) hR H locs ls hP hS hl)
theorem g_if_lt (X : Cx E ad cc nL own Ts fr lo) {a off : Int} {tgt : Nat} (ha : InR a) (hdg : decode cc pc = .ok (.ifCond .lt off, 3)) (ht : (pc : Int) + off = (tgt : Int)) (k1 : a < 0 → WG E ad nL σ (tgt) lv (st)) (k2 : ¬ a < 0 → WG E ad nL σ (pc + 3) lv (st)) : WG E ad nL σ (pc) lv (.int (iI a) :: st) := by
  obtain ⟨p, l, e, R, s, m, args, below, meth, c, Q, D, cy, A, kc, ks⟩ := E
  obtain ⟨hx, hb, hml, hown, hts, hK, hAp, hAA, hkc, hks, hfr, hlo⟩ := X
  intro hR H locs ls hP hS hl
  exact lv_if_lt hx hb hdg ht (fun h9 => k1 ((iI_lt ha InR_0).mp h9) hR H locs ls hP hS hl) (fun h9 => k2 (fun q9 => h9 ((iI_lt ha InR_0).mpr q9)) hR H locs ls hP hS hl)
theorem g_icmp_ge (X : Cx E ad cc nL own Ts fr lo) {a b off : Int} {tgt : Nat} (ha : InR a) (hb0 : InR b) (hdg : decode cc pc = .ok (.if_icmp .ge off, 3)) (ht : (pc : Int) + off = (tgt : Int)) (k1 : b ≤ a → WG E ad nL σ (tgt) lv (st)) (k2 : ¬ b ≤ a → WG E ad nL σ (pc + 3) lv (st)) : WG E ad nL σ (pc) lv (.int (iI b) :: .int (iI a) :: st) := by
  obtain ⟨p, l, e, R, s, m, args, below, meth, c, Q, D, cy, A, kc, ks⟩ := E
  obtain ⟨hx, hb, hml, hown, hts, hK, hAp, hAA, hkc, hks, hfr, hlo⟩ := X
  intro hR H locs ls hP hS hl
  exact lv_icmp_ge hx hb hdg ht (fun h9 => k1 ((iI_le hb0 ha).mp h9) hR H locs ls hP hS hl) (fun h9 => k2 (fun q9 => h9 ((iI_le hb0 ha).mpr q9)) hR H locs ls hP hS hl)
theorem g_if_ge (X : Cx E ad cc nL own Ts fr lo) {a off : Int} {tgt : Nat} (ha : InR a) (hdg : decode cc pc = .ok (.ifCond .ge off, 3)) (ht : (pc : Int) + off = (tgt : Int)) (k1 : 0 ≤ a → WG E ad nL σ (tgt) lv (st)) (k2 : ¬ 0 ≤ a → WG E ad nL σ (pc + 3) lv (st)) : WG E ad nL σ (pc) lv (.int (iI a) :: st) := by
  obtain ⟨p, l, e, R, s, m, args, below, meth, c, Q, D, cy, A, kc, ks⟩ := E
  obtain ⟨hx, hb, hml, hown, hts, hK, hAp, hAA, hkc, hks, hfr, hlo⟩ := X
  intro hR H locs ls hP hS hl
  exact lv_if_ge hx hb hdg ht (fun h9 => k1 ((iI_le InR_0 ha).mp h9) hR H locs ls hP hS hl) (fun h9 => k2 (fun q9 => h9 ((iI_le InR_0 ha).mpr q9)) hR H locs ls hP hS hl)
theorem g_icmp_gt (X : Cx E ad cc nL own Ts fr lo) {a b off : Int} {tgt : Nat} (ha : InR a) (hb0 : InR b) (hdg : decode cc pc = .ok (.if_icmp .gt off, 3)) (ht : (pc : Int) + off = (tgt : Int)) (k1 : b < a → WG E ad nL σ (tgt) lv (st)) (k2 : ¬ b < a → WG E ad nL σ (pc + 3) lv (st)) : WG E ad nL σ (pc) lv (.int (iI b) :: .int (iI a) :: st) := by
  obtain ⟨p, l, e, R, s, m, args, below, meth, c, Q, D, cy, A, kc, ks⟩ := E
  obtain ⟨hx, hb, hml, hown, hts, hK, hAp, hAA, hkc, hks, hfr, hlo⟩ := X
  intro hR H locs ls hP hS hl
  exact lv_icmp_gt hx hb hdg ht (fun h9 => k1 ((iI_lt hb0 ha).mp h9) hR H locs ls hP hS hl) (fun h9 => k2 (fun q9 => h9 ((iI_lt hb0 ha).mpr q9)) hR H locs ls hP hS hl)
theorem g_if_gt (X : Cx E ad cc nL own Ts fr lo) {a off : Int} {tgt : Nat} (ha : InR a) (hdg : decode cc pc = .ok (.ifCond .gt off, 3)) (ht : (pc : Int) + off = (tgt : Int)) (k1 : 0 < a → WG E ad nL σ (tgt) lv (st)) (k2 : ¬ 0 < a → WG E ad nL σ (pc + 3) lv (st)) : WG E ad nL σ (pc) lv (.int (iI a) :: st) := by
  obtain ⟨p, l, e, R, s, m, args, below, meth, c, Q, D, cy, A, kc, ks⟩ := E
  obtain ⟨hx, hb, hml, hown, hts, hK, hAp, hAA, hkc, hks, hfr, hlo⟩ := X
  intro hR H locs ls hP hS hl
  exact lv_if_gt hx hb hdg ht (fun h9 => k1 ((iI_lt InR_0 ha).mp h9) hR H locs ls hP hS hl) (fun h9 => k2 (fun q9 => h9 ((iI_lt InR_0 ha).mpr q9)) hR H locs ls hP hS hl)
theorem g_icmp_le (X : Cx E ad cc nL own Ts fr lo) {a b off : Int} {tgt : Nat} (ha : InR a) (hb0 : InR b) (hdg : decode cc pc = .ok (.if_icmp .le off, 3)) (ht : (pc : Int) + off = (tgt : Int)) (k1 : a ≤ b → WG E ad nL σ (tgt) lv (st)) (k2 : ¬ a ≤ b → WG E ad nL σ (pc + 3) lv (st)) : WG E ad nL σ (pc) lv (.int (iI b) :: .int (iI a) :: st) := by
  obtain ⟨p, l, e, R, s, m, args, below, meth, c, Q, D, cy, A, kc, ks⟩ := E
  obtain ⟨hx, hb, hml, hown, hts, hK, hAp, hAA, hkc, hks, hfr, hlo⟩ := X
  intro hR H locs ls hP hS hl
  exact lv_icmp_le hx hb hdg ht (fun h9 => k1 ((iI_le ha hb0).mp h9) hR H locs ls hP hS hl) (fun h9 => k2 (fun q9 => h9 ((iI_le ha hb0).mpr q9)) hR H locs ls hP hS hl)
theorem g_if_le (X : Cx E ad cc nL own Ts fr lo) {a off : Int} {tgt : Nat} (ha : InR a) (hdg : decode cc pc = .ok (.ifCond .le off, 3)) (ht : (pc : Int) + off = (tgt : Int)) (k1 : a ≤ 0 → WG E ad nL σ (tgt) lv (st)) (k2 : ¬ a ≤ 0 → WG E ad nL σ (pc + 3) lv (st)) : WG E ad nL σ (pc) lv (.int (iI a) :: st) := by
  obtain ⟨p, l, e, R, s, m, args, below, meth, c, Q, D, cy, A, kc, ks⟩ := E
  obtain ⟨hx, hb, hml, hown, hts, hK, hAp, hAA, hkc, hks, hfr, hlo⟩ := X
  intro hR H locs ls hP hS hl
  exact lv_if_le hx hb hdg ht (fun h9 => k1 ((iI_le ha InR_0).mp h9) hR H locs ls hP hS hl) (fun h9 => k2 (fun q9 => h9 ((iI_le ha InR_0).mpr q9)) hR H locs ls hP hS hl)
theorem g_dup (X : Cx E ad cc nL own Ts fr lo) {v : Value} (hdg : decode cc pc = .ok (.dup, 1)) (hv : v.category = 1) (k : WG E ad nL σ (pc + 1) lv (v :: v :: st)) : WG E ad nL σ (pc) lv (v :: st) := by
  obtain ⟨p, l, e, R, s, m, args, below, meth, c, Q, D, cy, A, kc, ks⟩ := E
  obtain ⟨hx, hb, hml, hown, hts, hK, hAp, hAA, hkc, hks, hfr, hlo⟩ := X
  intro hR H locs ls hP hS hl
  exact lv_dup hx hb hdg hv (k hR H locs ls hP hS hl)
theorem g_dup2 (X : Cx E ad cc nL own Ts fr lo) {v u : Value} (hdg : decode cc pc = .ok (.dup2, 1)) (hv : v.category = 1) (hu : u.category = 1) (k : WG E ad nL σ (pc + 1) lv (v :: u :: v :: u :: st)) : WG E ad nL σ (pc) lv (v :: u :: st) := by
  obtain ⟨p, l, e, R, s, m, args, below, meth, c, Q, D, cy, A, kc, ks⟩ := E
  obtain ⟨hx, hb, hml, hown, hts, hK, hAp, hAA, hkc, hks, hfr, hlo⟩ := X
  intro hR H locs ls hP hS hl
  exact lv_dup2_11 hx hb hdg hv hu (k hR H locs ls hP hS hl)
theorem g_tin (X : Cx E ad cc nL own Ts fr lo) {z off dflt l0 h0 : Int} {offs : Array Int} {ln tgt : Nat} (hz : InR z) (hdg : decode cc pc = .ok (.tableswitch dflt l0 h0 offs, ln)) (h1 : l0 ≤ z) (h2 : z ≤ h0) (ho : offs[(z - l0).toNat]? = some off) (ht : (pc : Int) + off = (tgt : Int)) (k : WG E ad nL σ (tgt) lv (st)) : WG E ad nL σ (pc) lv (.int (iI z) :: st) := by
  obtain ⟨p, l, e, R, s, m, args, below, meth, c, Q, D, cy, A, kc, ks⟩ := E
  obtain ⟨hx, hb, hml, hown, hts, hK, hAp, hAA, hkc, hks, hfr, hlo⟩ := X
  intro hR H locs ls hP hS hl
  refine lv_tableIn (off := off) hx hb hdg ?_ ?_ ?_ ht (k hR H locs ls hP hS hl)
  · rw [iI_toInt hz]; omega
  · rw [iI_toInt hz]; omega
  · rw [iI_toInt hz]; exact ho
theorem g_tout (X : Cx E ad cc nL own Ts fr lo) {z dflt l0 h0 : Int} {offs : Array Int} {ln tgt : Nat} (hz : InR z) (hdg : decode cc pc = .ok (.tableswitch dflt l0 h0 offs, ln)) (h1 : z < l0 ∨ h0 < z) (ht : (pc : Int) + dflt = (tgt : Int)) (k : WG E ad nL σ (tgt) lv (st)) : WG E ad nL σ (pc) lv (.int (iI z) :: st) := by
  obtain ⟨p, l, e, R, s, m, args, below, meth, c, Q, D, cy, A, kc, ks⟩ := E
  obtain ⟨hx, hb, hml, hown, hts, hK, hAp, hAA, hkc, hks, hfr, hlo⟩ := X
  intro hR H locs ls hP hS hl
  refine lv_tableOut hx hb hdg ?_ ht (k hR H locs ls hP hS hl)
  rw [iI_toInt hz]
  exact h1
theorem g_look (X : Cx E ad cc nL own Ts fr lo) {z dflt off : Int} {ps : Array (Int × Int)} {ln tgt : Nat} (hz : InR z) (hdg : decode cc pc = .ok (.lookupswitch dflt ps, ln)) (hp : (ps.toList.zip (ps.toList.drop 1)).all (fun (a, next) => a.1 < next.1) = true) (ho : Op.lookupswitch.offset ps.toList dflt z = off) (ht : (pc : Int) + off = (tgt : Int)) (k : WG E ad nL σ (tgt) lv (st)) : WG E ad nL σ (pc) lv (.int (iI z) :: st) := by
  obtain ⟨p, l, e, R, s, m, args, below, meth, c, Q, D, cy, A, kc, ks⟩ := E
  obtain ⟨hx, hb, hml, hown, hts, hK, hAp, hAA, hkc, hks, hfr, hlo⟩ := X
  intro hR H locs ls hP hS hl
  refine lv_lookup hx hb hdg hp ?_ ht (k hR H locs ls hP hS hl)
  rw [iI_toInt hz]
  exact ho
end RULES
section HEAP
variable {E : EV} {ad : Int → Nat} {cc : ByteArray} {nL : Nat} {own : String} {Ts : List Cond} {fr lo : Nat} {σ : St} {pc : Nat} {lv : List (Option Value)} {st : List Value}
theorem g_get (X : Cx E ad cc nL own Ts fr lo) {C : String} {T : u_T} {N ci idx k : Nat} {q : Int} {fs : List Value} {v : Value} {ref : String} (hq : 0 ≤ q ∧ q < 82) (hc : ∀ cy, cel ad cy σ q = .inr (ci, fs)) (hcl : vwCl[ci]? = some (C, T, N)) (hin : ∀ w ∈ u_ws C T N, w ∈ Ts) (hk : k < N) (href : (T k).1 = ref) (hlink : Cond.fieldLink own idx ref (T k).2.1 (T k).2.2.1 ∈ Ts) (hv : fs[k]? = some v) (hdg : decode cc pc = .ok (.getfield idx, 3)) (kk : WG E ad nL σ (pc + 3) lv (v :: st)) : WG E ad nL σ pc lv (.ref (ad q) :: st) := by
  obtain ⟨p, l, e, R, s, m, args, below, meth, c, Q, D, cy, A, kc, ks⟩ := E
  obtain ⟨hx, hb, hml, hown, hts, hK, hAp, hAA, hkc, hks, hfr, hlo⟩ := X
  intro hR H locs ls hP hS hl
  subst href
  have h1 := gw_at (ad := ad) (cy := cy) (σ := σ) hq
  rw [hc] at h1
  exact va_get hx hb hts hin hown hK hP q.toNat h1 hcl k hk (hts _ hlink) (fun _ h9 => h9) hv hdg (kk hR H locs ls hP hS hl)
theorem g_put (X : Cx E ad cc nL own Ts fr lo) {C : String} {T : u_T} {N ci idx k : Nat} {q z : Int} {k' : Int} {fs : List Value} {ref : String} {ty0 : Nat → FieldType} (hq : 0 ≤ q ∧ q < 82) (hc : ∀ cy, cel ad cy σ q = .inr (ci, fs)) (hcl : vwCl[ci]? = some (C, T, N)) (hin : ∀ w ∈ u_ws C T N, w ∈ Ts) (hty : ∀ k, k < N → parseFieldDescriptor (T k).2.2.1 = some (ty0 k)) (hnm : ∀ a, a < N → ∀ b, b < N → a ≠ b → (T a).2.1 ≠ (T b).2.1) (hk : k < N) (href : (T k).1 = ref) (hlink : Cond.fieldLink own idx ref (T k).2.1 (T k).2.2.1 ∈ Ts) (hfin : (T k).2.2.2 = false) (hd : parseFieldDescriptor (T k).2.2.1 = some .int) (hl0 : k < fs.length) (hnew : ∀ cy, cel ad cy (up σ q k' z) q = .inr (ci, fs.set k (.int (iI z)))) (hz : InR z) (hdg : decode cc pc = .ok (.putfield idx, 3)) (kk : WG E ad nL (up σ q k' z) (pc + 3) lv st) : WG E ad nL σ pc lv (.int (iI z) :: .ref (ad q) :: st) := by
  obtain ⟨p, l, e, R, s, m, args, below, meth, c, Q, D, cy, A, kc, ks⟩ := E
  obtain ⟨hx, hb, hml, hown, hts, hK, hAp, hAA, hkc, hks, hfr, hlo⟩ := X
  intro hR H locs ls hP hS hl
  subst href
  have h1 := gw_at (ad := ad) (cy := cy) (σ := σ) hq
  rw [hc] at h1
  refine va_put hx hb hts hin ty0 hty hnm hown hK hP (gw_D hAp hAA) hS q.toNat h1 hcl k hk (hts _ hlink) (fun _ h9 => h9) hfin hd rfl rfl hl0 hdg (fun H1 locs1 hP1 _ hS1 => ?_)
  rw [← hnew cy, gw_set (σ' := up σ q k' z) hq (fun q' k9 h9 => by unfold up; rw [if_neg (fun e => h9 e.1)])] at hP1
  exact kk (rg_up hR hz) H1 locs1 ls hP1 hS1 hl
def IA (q i : Int) : Prop := (0 ≤ q ∧ q < 82) ∧ 0 ≤ i ∧ i < alen q
theorem alen_le (q : Int) : alen q ≤ 256 := by
  unfold alen
  repeat' split
  all_goals omega
theorem g_iald (X : Cx E ad cc nL own Ts fr lo) {q i : Int} (hi : IA q i) (hdg : decode cc pc = .ok (.iaload, 1)) (kk : WG E ad nL σ (pc + 1) lv (.int (iI (σ q i)) :: st)) : WG E ad nL σ pc lv (.int (iI i) :: .ref (ad q) :: st) := by
  obtain ⟨p, l, e, R, s, m, args, below, meth, c, Q, D, cy, A, kc, ks⟩ := E
  obtain ⟨hx, hb, hml, hown, hts, hK, hAp, hAA, hkc, hks, hfr, hlo⟩ := X
  intro hR H locs ls hP hS hl
  obtain ⟨hq, h0, h1⟩ := hi
  have h8 := alen_le q
  have hir : InR i := ⟨by omega, by omega⟩
  have h2 := gw_at (ad := ad) (cy := cy) (σ := σ) hq
  rw [cel_I (by omega)] at h2
  refine va_iald hx hb hK hP q.toNat 0 h2 rfl (iI_vp h0 (by omega) hir) hdg ?_
  rw [iI_clamp h0 hir, Int.toNat_of_nonneg h0]
  exact kk hR H locs ls hP hS hl
theorem g_iast (X : Cx E ad cc nL own Ts fr lo) {q i z : Int} (hi : IA q i) (hz : InR z) (hdg : decode cc pc = .ok (.iastore, 1)) (kk : WG E ad nL (up σ q i z) (pc + 1) lv st) : WG E ad nL σ pc lv (.int (iI z) :: .int (iI i) :: .ref (ad q) :: st) := by
  obtain ⟨p, l, e, R, s, m, args, below, meth, c, Q, D, cy, A, kc, ks⟩ := E
  obtain ⟨hx, hb, hml, hown, hts, hK, hAp, hAA, hkc, hks, hfr, hlo⟩ := X
  intro hR H locs ls hP hS hl
  obtain ⟨hq, h0, h1⟩ := hi
  have h8 := alen_le q
  have hir : InR i := ⟨by omega, by omega⟩
  have h2 := gw_at (ad := ad) (cy := cy) (σ := σ) hq
  rw [cel_I (by omega)] at h2
  refine va_iast hx hb hK hP (gw_D hAp hAA) hS q.toNat 0 h2 rfl (iI_vp h0 (by omega) hir) hdg (fun H1 locs1 hP1 _ hS1 => ?_)
  have e : (Sum.inl (cy.1, (alen q).toNat, Sum.inl (upd (fun k : Nat => iI (σ q k)) (iI i).toNatClampNeg (iI z))) : va_E) = cel ad cy (up σ q i z) q := by
    rw [cel_I (by omega), iI_clamp h0 hir]
    refine congrArg (fun f => (Sum.inl (cy.1, (alen q).toNat, Sum.inl f) : va_E)) (funext fun j => ?_)
    unfold upd up
    by_cases hj : j = i.toNat
    · rw [if_pos hj, if_pos ⟨rfl, by omega⟩]
    · rw [if_neg hj, if_neg (fun e => hj (by omega))]
  rw [e, gw_set (σ' := up σ q i z) hq (fun q' k9 h9 => by unfold up; rw [if_neg (fun e => h9 e.1)])] at hP1
  exact kk (rg_up hR hz) H1 locs1 ls hP1 hS1 hl
theorem g_cald (X : Cx E ad cc nL own Ts fr lo) {i : Int} (hi : 0 ≤ i ∧ i < 80) (hdg : decode cc pc = .ok (.caload, 1)) (kk : WG E ad nL σ (pc + 1) lv (.int (iI (σ 9 i)) :: st)) : WG E ad nL σ pc lv (.int (iI i) :: .ref (ad 9) :: st) := by
  obtain ⟨p, l, e, R, s, m, args, below, meth, c, Q, D, cy, A, kc, ks⟩ := E
  obtain ⟨hx, hb, hml, hown, hts, hK, hAp, hAA, hkc, hks, hfr, hlo⟩ := X
  intro hR H locs ls hP hS hl
  have hir : InR i := ⟨by omega, by omega⟩
  have h2 := gw_at (ad := ad) (cy := cy) (σ := σ) (q := 9) ⟨by omega, by omega⟩
  rw [cel_9] at h2
  refine va_cald hx hb hK hP _ 1 h2 rfl (iI_vp hi.1 (by omega) hir) hdg ?_
  rw [iI_clamp hi.1 hir, Int.toNat_of_nonneg hi.1]
  exact kk hR H locs ls hP hS hl
theorem g_cast (X : Cx E ad cc nL own Ts fr lo) {i z : Int} (hi : 0 ≤ i ∧ i < 80) (hz : 0 ≤ z ∧ z < 65536) (hdg : decode cc pc = .ok (.castore, 1)) (kk : WG E ad nL (up σ 9 i z) (pc + 1) lv st) : WG E ad nL σ pc lv (.int (iI z) :: .int (iI i) :: .ref (ad 9) :: st) := by
  obtain ⟨p, l, e, R, s, m, args, below, meth, c, Q, D, cy, A, kc, ks⟩ := E
  obtain ⟨hx, hb, hml, hown, hts, hK, hAp, hAA, hkc, hks, hfr, hlo⟩ := X
  intro hR H locs ls hP hS hl
  have hir : InR i := ⟨by omega, by omega⟩
  have hzr : InR z := ⟨by omega, by omega⟩
  have h2 := gw_at (ad := ad) (cy := cy) (σ := σ) (q := 9) ⟨by omega, by omega⟩
  rw [cel_9] at h2
  refine va_cast hx hb hK hP (gw_D hAp hAA) hS _ 1 h2 rfl (iI_vp hi.1 (by omega) hir) hdg (fun H1 locs1 hP1 _ hS1 => ?_)
  have e : (Sum.inl (cy.2.1, 80, Sum.inl (upd (fun k : Nat => iI (σ 9 k)) (iI i).toNatClampNeg (vp_nar .char (iI z)))) : va_E) = cel ad cy (up σ 9 i z) 9 := by
    rw [cel_9, iI_clamp hi.1 hir, vp_nar_char]
    have e2 : (iI z).toUInt32.toUInt16.toUInt32.toInt32 = iI z := by
      rw [← lg_i2c_nf]
      exact lg_i2c_word (by rw [iI_toInt hzr]; exact hz.1) (by rw [iI_toInt hzr]; exact hz.2)
    rw [e2]
    refine congrArg (fun f => (Sum.inl (cy.2.1, 80, Sum.inl f) : va_E)) (funext fun j => ?_)
    unfold upd up
    by_cases hj : j = i.toNat
    · rw [if_pos hj, if_pos ⟨rfl, by omega⟩]
    · rw [if_neg hj, if_neg (fun e => hj (by omega))]
  rw [e, gw_set (σ' := up σ 9 i z) ⟨by omega, by omega⟩ (fun q' k9 h9 => by unfold up; rw [if_neg (fun e => h9 e.1)])] at hP1
  exact kk (rg_up hR hzr) H1 locs1 ls hP1 hS1 hl
theorem g_aald (X : Cx E ad cc nL own Ts fr lo) {q i : Int} {n t0 : Nat} {f : Nat → Nat} {ty : FieldType} {cA : CY → ClassId} (hq : 0 ≤ q ∧ q < 82) (hc : ∀ cy, cel ad cy σ q = .inl (cA cy, n, .inr (.inr (.inr (.inr (fun k => some (f k))))))) (ht : ∀ cy, (tysOf cy)[t0]? = some (cA cy, ty)) (hty : ty.isReference = true) (hn : n ≤ 8) (hi : 0 ≤ i ∧ i < n) (hdg : decode cc pc = .ok (.aaload, 1)) (kk : WG E ad nL σ (pc + 1) lv (.ref (f i.toNat) :: st)) : WG E ad nL σ pc lv (.int (iI i) :: .ref (ad q) :: st) := by
  obtain ⟨p, l, e, R, s, m, args, below, meth, c, Q, D, cy, A, kc, ks⟩ := E
  obtain ⟨hx, hb, hml, hown, hts, hK, hAp, hAA, hkc, hks, hfr, hlo⟩ := X
  intro hR H locs ls hP hS hl
  have hir : InR i := ⟨by omega, by omega⟩
  have h2 := gw_at (ad := ad) (cy := cy) (σ := σ) hq
  rw [hc] at h2
  have hin := iI_vp (n := n) hi.1 hi.2 hir
  refine W.aald (v := .ref (f i.toNat)) (ty := ty) hx hb (hP q.toNat _ h2) ((hK.2 t0 _ (ht cy)).1 n (fun j => va_rf (some (f j)))) hty (fun q => by cases q) (by show ¬ (iI i < 0 ∨ (arrV _ _ _).slots.size ≤ _); rw [arrV_size]; exact hin) ?_ rfl rfl hdg (kk hR H locs ls hP hS hl)
  show (arrV _ _ _).slots[_]? = _
  rw [iI_clamp hi.1 hir, arrV_read _ _ (show i.toNat < n by omega)]
  rfl
theorem g_aald_TC (X : Cx E ad cc nL own Ts fr lo) {t i : Int} (ht : 0 ≤ t ∧ t < 6) (hi : 0 ≤ i ∧ i < 7) (hdg : decode cc pc = .ok (.aaload, 1)) (kk : WG E ad nL σ (pc + 1) lv (.ref (ad (TR t i)) :: st)) : WG E ad nL σ pc lv (.int (iI i) :: .ref (ad (TC t)) :: st) :=
  g_aald X (q := TC t) (n := 7) (t0 := 3) (f := fun k => ad (TR t k)) (cA := fun cy => cy.2.2.2) (by unfold TC; omega) (fun cy => cel_TC ht) (fun cy => rfl) rfl (by omega) hi hdg (by
    show WG E ad nL σ (pc + 1) lv (.ref (ad (TR t (i.toNat : Int))) :: st)
    rw [Int.toNat_of_nonneg hi.1]
    exact kk)
theorem g_aald_5 (X : Cx E ad cc nL own Ts fr lo) {i : Int} (hi : 0 ≤ i ∧ i < 8) (hdg : decode cc pc = .ok (.aaload, 1)) (kk : WG E ad nL σ (pc + 1) lv (.ref (ad (LR i)) :: st)) : WG E ad nL σ pc lv (.int (iI i) :: .ref (ad 5) :: st) :=
  g_aald X (q := 5) (n := 8) (t0 := 3) (f := fun k => ad (LR k)) (cA := fun cy => cy.2.2.2) (by omega) (fun cy => cel_5) (fun cy => rfl) rfl (by omega) hi hdg (by
    show WG E ad nL σ (pc + 1) lv (.ref (ad (LR (i.toNat : Int))) :: st)
    rw [Int.toNat_of_nonneg hi.1]
    exact kk)
theorem g_aald_2 (X : Cx E ad cc nL own Ts fr lo) {i : Int} (hi : 0 ≤ i ∧ i < 4) (hdg : decode cc pc = .ok (.aaload, 1)) (kk : WG E ad nL σ (pc + 1) lv (.ref (ad (TB (σ 2 i))) :: st)) : WG E ad nL σ pc lv (.int (iI i) :: .ref (ad 2) :: st) :=
  g_aald X (q := 2) (n := 4) (t0 := 2) (f := fun k => ad (TB (σ 2 k))) (cA := fun cy => cy.2.2.1) (by omega) (fun cy => cel_2) (fun cy => rfl) rfl (by omega) hi hdg (by
    show WG E ad nL σ (pc + 1) lv (.ref (ad (TB (σ 2 (i.toNat : Int)))) :: st)
    rw [Int.toNat_of_nonneg hi.1]
    exact kk)
theorem g_aast_2 (X : Cx E ad cc nL own Ts fr lo) {i t : Int} (hi : 0 ≤ i ∧ i < 4) (ht : 0 ≤ t ∧ t < 6) (hdg : decode cc pc = .ok (.aastore, 1)) (kk : WG E ad nL (up σ 2 i t) (pc + 1) lv st) : WG E ad nL σ pc lv (.ref (ad (TB t)) :: .int (iI i) :: .ref (ad 2) :: st) := by
  obtain ⟨p, l, e, R, s, m, args, below, meth, c, Q, D, cy, A, kc, ks⟩ := E
  obtain ⟨hx, hb, hml, hown, hts, hK, hAp, hAA, hkc, hks, hfr, hlo⟩ := X
  intro hR H locs ls hP hS hl
  have hir : InR i := ⟨by omega, by omega⟩
  have h2 := gw_at (ad := ad) (cy := cy) (σ := σ) (q := 2) ⟨by omega, by omega⟩
  rw [cel_2] at h2
  have h3 := gw_at (ad := ad) (cy := cy) (σ := σ) (q := TB t) (by unfold TB; omega)
  rw [cel_TB ht] at h3
  refine va_astq hx hb hK hP (gw_D hAp hAA) hS _ 2 _ 4 (r := (RX4, TX4, 4)) h2 rfl h3 rfl (iI_vp hi.1 (by omega) hir) hdg (fun H1 locs1 hP1 _ hS1 => ?_)
  have e : (Sum.inl (cy.2.2.1, 4, Sum.inr (Sum.inr (Sum.inr (Sum.inr (va_up (fun k : Nat => some (ad (TB (σ 2 k)))) (iI i).toNatClampNeg (some (ad (TB t)))))))) : va_E) = cel ad cy (up σ 2 i t) 2 := by
    rw [cel_2, iI_clamp hi.1 hir]
    refine congrArg (fun f => (Sum.inl (cy.2.2.1, 4, Sum.inr (Sum.inr (Sum.inr (Sum.inr f)))) : va_E)) (funext fun j => ?_)
    unfold va_up up
    by_cases hj : j = i.toNat
    · rw [if_pos hj, if_pos ⟨rfl, by omega⟩]
    · rw [if_neg hj, if_neg (fun e => hj (by omega))]
  rw [e, gw_set (σ' := up σ 2 i t) ⟨by omega, by omega⟩ (fun q' k9 h9 => by unfold up; rw [if_neg (fun e => h9 e.1)])] at hP1
  exact kk (rg_up hR ⟨by omega, by omega⟩) H1 locs1 ls hP1 hS1 hl
theorem ia_TR {t r i : Int} (ht : 0 ≤ t ∧ t < 6) (hr : 0 ≤ r ∧ r < 7) (hi : 0 ≤ i ∧ i < 7) : IA (TR t r) i := by
  refine ⟨by unfold TR; omega, hi.1, ?_⟩
  have e : alen (TR t r) = 7 := by
    unfold alen TR
    rw [if_neg (by omega), if_pos (by omega), if_neg (by omega)]
  omega
theorem ia_TI {t i : Int} (ht : 0 ≤ t ∧ t < 6) (hi : 0 ≤ i ∧ i < 7) : IA (TI t) i := by
  refine ⟨by unfold TI; omega, hi.1, ?_⟩
  have e : alen (TI t) = 7 := by
    unfold alen TI
    rw [if_neg (by omega), if_pos (by omega), if_neg (by omega)]
  omega
theorem ia_LR {w i : Int} (hw : 0 ≤ w ∧ w < 8) (hi : 0 ≤ i ∧ i < 128) : IA (LR w) i := by
  refine ⟨by unfold LR; omega, hi.1, ?_⟩
  have e : alen (LR w) = 128 := by
    unfold alen LR
    rw [if_neg (by omega), if_neg (by omega), if_pos (by omega)]
  omega
theorem ia_4 {i : Int} (hi : 0 ≤ i ∧ i < 7) : IA 4 i := ⟨by omega, hi.1, by rw [show alen 4 = 7 from rfl]; exact hi.2⟩
theorem ia_7 {i : Int} (hi : 0 ≤ i ∧ i < 7) : IA 7 i := ⟨by omega, hi.1, by rw [show alen 7 = 7 from rfl]; exact hi.2⟩
theorem ia_79 {i : Int} (hi : 0 ≤ i ∧ i < 2) : IA 79 i := ⟨by omega, hi.1, by rw [show alen 79 = 2 from rfl]; exact hi.2⟩
theorem ia_80 {i : Int} (hi : 0 ≤ i ∧ i < 49) : IA 80 i := ⟨by omega, hi.1, by rw [show alen 80 = 49 from rfl]; exact hi.2⟩
theorem ia_81 {i : Int} (hi : 0 ≤ i ∧ i < 7) : IA 81 i := ⟨by omega, hi.1, by rw [show alen 81 = 7 from rfl]; exact hi.2⟩
theorem gf_0_size (X : Cx E ad cc nL own Ts fr lo) {idx : Nat} (hin : ∀ w ∈ wsX00, w ∈ Ts) (hlink : Cond.fieldLink own idx "PricedPairs$History" "size" "I" ∈ Ts) (hdg : decode cc pc = .ok (.getfield idx, 3)) (kk : WG E ad nL σ (pc + 3) lv (.int (iI (σ 1 0)) :: st)) : WG E ad nL σ pc lv (.ref (ad 1) :: st) :=
  g_get X (C := RX0) (T := TX0) (N := 2) (ci := 0) (k := 0) (by omega) (fun cy => cel_1) rfl hin (by decide) rfl hlink rfl hdg kk
theorem gp_0_size (X : Cx E ad cc nL own Ts fr lo) {idx : Nat} {z : Int} (hin : ∀ w ∈ wsX00, w ∈ Ts) (hlink : Cond.fieldLink own idx "PricedPairs$History" "size" "I" ∈ Ts) (hz : InR z) (hdg : decode cc pc = .ok (.putfield idx, 3)) (kk : WG E ad nL (up σ 1 0 z) (pc + 3) lv st) : WG E ad nL σ pc lv (.int (iI z) :: .ref (ad 1) :: st) :=
  g_put X (C := RX0) (T := TX0) (N := 2) (ci := 0) (k := 0) (ty0 := tyX0) (by omega) (fun cy => cel_1) rfl hin tyX0_ok nmX0 (by decide) rfl hlink rfl (by decide +kernel) (Nat.le_of_ble_eq_true rfl) (fun cy => by rw [cel_1]; simp [up]) hz hdg kk
theorem gf_0_states (X : Cx E ad cc nL own Ts fr lo) {idx : Nat} (hin : ∀ w ∈ wsX00, w ∈ Ts) (hlink : Cond.fieldLink own idx "PricedPairs$History" "states" "[LPricedPairs$Table;" ∈ Ts) (hdg : decode cc pc = .ok (.getfield idx, 3)) (kk : WG E ad nL σ (pc + 3) lv (.ref (ad 2) :: st)) : WG E ad nL σ pc lv (.ref (ad 1) :: st) :=
  g_get X (C := RX0) (T := TX0) (N := 2) (ci := 0) (k := 1) (by omega) (fun cy => cel_1) rfl hin (by decide) rfl hlink rfl hdg kk
theorem gf_1_chosen (X : Cx E ad cc nL own Ts fr lo) {idx : Nat} (hin : ∀ w ∈ wsX10, w ∈ Ts) (hlink : Cond.fieldLink own idx "PricedPairs$Plans" "chosen" "[I" ∈ Ts) (hdg : decode cc pc = .ok (.getfield idx, 3)) (kk : WG E ad nL σ (pc + 3) lv (.ref (ad 4) :: st)) : WG E ad nL σ pc lv (.ref (ad 3) :: st) :=
  g_get X (C := RX1) (T := TX1) (N := 4) (ci := 1) (k := 0) (by omega) (fun cy => cel_3) rfl hin (by decide) rfl hlink rfl hdg kk
theorem gf_1_chosenTotal (X : Cx E ad cc nL own Ts fr lo) {idx : Nat} (hin : ∀ w ∈ wsX10, w ∈ Ts) (hlink : Cond.fieldLink own idx "PricedPairs$Plans" "chosenTotal" "I" ∈ Ts) (hdg : decode cc pc = .ok (.getfield idx, 3)) (kk : WG E ad nL σ (pc + 3) lv (.int (iI (σ 3 1)) :: st)) : WG E ad nL σ pc lv (.ref (ad 3) :: st) :=
  g_get X (C := RX1) (T := TX1) (N := 4) (ci := 1) (k := 1) (by omega) (fun cy => cel_3) rfl hin (by decide) rfl hlink rfl hdg kk
theorem gp_1_chosenTotal (X : Cx E ad cc nL own Ts fr lo) {idx : Nat} {z : Int} (hin : ∀ w ∈ wsX10, w ∈ Ts) (hlink : Cond.fieldLink own idx "PricedPairs$Plans" "chosenTotal" "I" ∈ Ts) (hz : InR z) (hdg : decode cc pc = .ok (.putfield idx, 3)) (kk : WG E ad nL (up σ 3 1 z) (pc + 3) lv st) : WG E ad nL σ pc lv (.int (iI z) :: .ref (ad 3) :: st) :=
  g_put X (C := RX1) (T := TX1) (N := 4) (ci := 1) (k := 1) (ty0 := tyX1) (by omega) (fun cy => cel_3) rfl hin tyX1_ok nmX1 (by decide) rfl hlink rfl (by decide +kernel) (Nat.le_of_ble_eq_true rfl) (fun cy => by rw [cel_3]; simp [up]) hz hdg kk
theorem gf_1_table (X : Cx E ad cc nL own Ts fr lo) {idx : Nat} (hin : ∀ w ∈ wsX10, w ∈ Ts) (hlink : Cond.fieldLink own idx "PricedPairs$Plans" "table" "LPricedPairs$Table;" ∈ Ts) (hdg : decode cc pc = .ok (.getfield idx, 3)) (kk : WG E ad nL σ (pc + 3) lv (.ref (ad (TB 0)) :: st)) : WG E ad nL σ pc lv (.ref (ad 3) :: st) :=
  g_get X (C := RX1) (T := TX1) (N := 4) (ci := 1) (k := 2) (by omega) (fun cy => cel_3) rfl hin (by decide) rfl hlink rfl hdg kk
theorem gf_1_least (X : Cx E ad cc nL own Ts fr lo) {idx : Nat} (hin : ∀ w ∈ wsX10, w ∈ Ts) (hlink : Cond.fieldLink own idx "PricedPairs$Plans" "least" "[[I" ∈ Ts) (hdg : decode cc pc = .ok (.getfield idx, 3)) (kk : WG E ad nL σ (pc + 3) lv (.ref (ad 5) :: st)) : WG E ad nL σ pc lv (.ref (ad 3) :: st) :=
  g_get X (C := RX1) (T := TX1) (N := 4) (ci := 1) (k := 3) (by omega) (fun cy => cel_3) rfl hin (by decide) rfl hlink rfl hdg kk
theorem gf_2_least (X : Cx E ad cc nL own Ts fr lo) {idx : Nat} (hin : ∀ w ∈ wsX20, w ∈ Ts) (hlink : Cond.fieldLink own idx "PricedPairs$Prices" "least" "[I" ∈ Ts) (hdg : decode cc pc = .ok (.getfield idx, 3)) (kk : WG E ad nL σ (pc + 3) lv (.ref (ad 7) :: st)) : WG E ad nL σ pc lv (.ref (ad 6) :: st) :=
  g_get X (C := RX2) (T := TX2) (N := 3) (ci := 2) (k := 0) (by omega) (fun cy => cel_6) rfl hin (by decide) rfl hlink rfl hdg kk
theorem gf_2_table (X : Cx E ad cc nL own Ts fr lo) {idx : Nat} (hin : ∀ w ∈ wsX20, w ∈ Ts) (hlink : Cond.fieldLink own idx "PricedPairs$Prices" "table" "LPricedPairs$Table;" ∈ Ts) (hdg : decode cc pc = .ok (.getfield idx, 3)) (kk : WG E ad nL σ (pc + 3) lv (.ref (ad (TB 0)) :: st)) : WG E ad nL σ pc lv (.ref (ad 6) :: st) :=
  g_get X (C := RX2) (T := TX2) (N := 3) (ci := 2) (k := 1) (by omega) (fun cy => cel_6) rfl hin (by decide) rfl hlink rfl hdg kk
theorem gf_2_plans (X : Cx E ad cc nL own Ts fr lo) {idx : Nat} (hin : ∀ w ∈ wsX20, w ∈ Ts) (hlink : Cond.fieldLink own idx "PricedPairs$Prices" "plans" "LPricedPairs$Plans;" ∈ Ts) (hdg : decode cc pc = .ok (.getfield idx, 3)) (kk : WG E ad nL σ (pc + 3) lv (.ref (ad 3) :: st)) : WG E ad nL σ pc lv (.ref (ad 6) :: st) :=
  g_get X (C := RX2) (T := TX2) (N := 3) (ci := 2) (k := 2) (by omega) (fun cy => cel_6) rfl hin (by decide) rfl hlink rfl hdg kk
theorem gf_3_place (X : Cx E ad cc nL own Ts fr lo) {idx : Nat} (hin : ∀ w ∈ wsX30, w ∈ Ts) (hlink : Cond.fieldLink own idx "PricedPairs$Reader" "place" "I" ∈ Ts) (hdg : decode cc pc = .ok (.getfield idx, 3)) (kk : WG E ad nL σ (pc + 3) lv (.int (iI (σ 10 0)) :: st)) : WG E ad nL σ pc lv (.ref (ad 10) :: st) :=
  g_get X (C := RX3) (T := TX3) (N := 4) (ci := 3) (k := 0) (by omega) (fun cy => cel_10) rfl hin (by decide) rfl hlink rfl hdg kk
theorem gp_3_place (X : Cx E ad cc nL own Ts fr lo) {idx : Nat} {z : Int} (hin : ∀ w ∈ wsX30, w ∈ Ts) (hlink : Cond.fieldLink own idx "PricedPairs$Reader" "place" "I" ∈ Ts) (hz : InR z) (hdg : decode cc pc = .ok (.putfield idx, 3)) (kk : WG E ad nL (up σ 10 0 z) (pc + 3) lv st) : WG E ad nL σ pc lv (.int (iI z) :: .ref (ad 10) :: st) :=
  g_put X (C := RX3) (T := TX3) (N := 4) (ci := 3) (k := 0) (ty0 := tyX3) (by omega) (fun cy => cel_10) rfl hin tyX3_ok nmX3 (by decide) rfl hlink rfl (by decide +kernel) (Nat.le_of_ble_eq_true rfl) (fun cy => by rw [cel_10]; simp [up]) hz hdg kk
theorem gf_3_reason (X : Cx E ad cc nL own Ts fr lo) {idx : Nat} (hin : ∀ w ∈ wsX30, w ∈ Ts) (hlink : Cond.fieldLink own idx "PricedPairs$Reader" "reason" "I" ∈ Ts) (hdg : decode cc pc = .ok (.getfield idx, 3)) (kk : WG E ad nL σ (pc + 3) lv (.int (iI (σ 10 1)) :: st)) : WG E ad nL σ pc lv (.ref (ad 10) :: st) :=
  g_get X (C := RX3) (T := TX3) (N := 4) (ci := 3) (k := 1) (by omega) (fun cy => cel_10) rfl hin (by decide) rfl hlink rfl hdg kk
theorem gp_3_reason (X : Cx E ad cc nL own Ts fr lo) {idx : Nat} {z : Int} (hin : ∀ w ∈ wsX30, w ∈ Ts) (hlink : Cond.fieldLink own idx "PricedPairs$Reader" "reason" "I" ∈ Ts) (hz : InR z) (hdg : decode cc pc = .ok (.putfield idx, 3)) (kk : WG E ad nL (up σ 10 1 z) (pc + 3) lv st) : WG E ad nL σ pc lv (.int (iI z) :: .ref (ad 10) :: st) :=
  g_put X (C := RX3) (T := TX3) (N := 4) (ci := 3) (k := 1) (ty0 := tyX3) (by omega) (fun cy => cel_10) rfl hin tyX3_ok nmX3 (by decide) rfl hlink rfl (by decide +kernel) (Nat.le_of_ble_eq_true rfl) (fun cy => by rw [cel_10]; simp [up]) hz hdg kk
theorem gf_3_found (X : Cx E ad cc nL own Ts fr lo) {idx : Nat} (hin : ∀ w ∈ wsX30, w ∈ Ts) (hlink : Cond.fieldLink own idx "PricedPairs$Reader" "found" "LPricedPairs$Table;" ∈ Ts) (hdg : decode cc pc = .ok (.getfield idx, 3)) (kk : WG E ad nL σ (pc + 3) lv (.ref (ad (TB 5)) :: st)) : WG E ad nL σ pc lv (.ref (ad 10) :: st) :=
  g_get X (C := RX3) (T := TX3) (N := 4) (ci := 3) (k := 2) (by omega) (fun cy => cel_10) rfl hin (by decide) rfl hlink rfl hdg kk
theorem gf_3_text (X : Cx E ad cc nL own Ts fr lo) {idx : Nat} (hin : ∀ w ∈ wsX30, w ∈ Ts) (hlink : Cond.fieldLink own idx "PricedPairs$Reader" "text" "LPricedPairs$Text;" ∈ Ts) (hdg : decode cc pc = .ok (.getfield idx, 3)) (kk : WG E ad nL σ (pc + 3) lv (.ref (ad 8) :: st)) : WG E ad nL σ pc lv (.ref (ad 10) :: st) :=
  g_get X (C := RX3) (T := TX3) (N := 4) (ci := 3) (k := 3) (by omega) (fun cy => cel_10) rfl hin (by decide) rfl hlink rfl hdg kk
theorem gf_4_workers (X : Cx E ad cc nL own Ts fr lo) {t : Int} (ht : 0 ≤ t ∧ t < 6) {idx : Nat} (hin : ∀ w ∈ wsX40, w ∈ Ts) (hlink : Cond.fieldLink own idx "PricedPairs$Table" "workers" "I" ∈ Ts) (hdg : decode cc pc = .ok (.getfield idx, 3)) (kk : WG E ad nL σ (pc + 3) lv (.int (iI (σ (TB t) 0)) :: st)) : WG E ad nL σ pc lv (.ref (ad (TB t)) :: st) :=
  g_get X (C := RX4) (T := TX4) (N := 4) (ci := 4) (k := 0) (by unfold TB; omega) (fun cy => cel_TB ht) rfl hin (by decide) rfl hlink rfl hdg kk
theorem gp_4_workers (X : Cx E ad cc nL own Ts fr lo) {t : Int} (ht : 0 ≤ t ∧ t < 6) {idx : Nat} {z : Int} (hin : ∀ w ∈ wsX40, w ∈ Ts) (hlink : Cond.fieldLink own idx "PricedPairs$Table" "workers" "I" ∈ Ts) (hz : InR z) (hdg : decode cc pc = .ok (.putfield idx, 3)) (kk : WG E ad nL (up σ (TB t) 0 z) (pc + 3) lv st) : WG E ad nL σ pc lv (.int (iI z) :: .ref (ad (TB t)) :: st) :=
  g_put X (C := RX4) (T := TX4) (N := 4) (ci := 4) (k := 0) (ty0 := tyX4) (by unfold TB; omega) (fun cy => cel_TB ht) rfl hin tyX4_ok nmX4 (by decide) rfl hlink rfl (by decide +kernel) (Nat.le_of_ble_eq_true rfl) (fun cy => by rw [cel_TB ht]; simp [up]) hz hdg kk
theorem gf_4_tasks (X : Cx E ad cc nL own Ts fr lo) {t : Int} (ht : 0 ≤ t ∧ t < 6) {idx : Nat} (hin : ∀ w ∈ wsX40, w ∈ Ts) (hlink : Cond.fieldLink own idx "PricedPairs$Table" "tasks" "I" ∈ Ts) (hdg : decode cc pc = .ok (.getfield idx, 3)) (kk : WG E ad nL σ (pc + 3) lv (.int (iI (σ (TB t) 1)) :: st)) : WG E ad nL σ pc lv (.ref (ad (TB t)) :: st) :=
  g_get X (C := RX4) (T := TX4) (N := 4) (ci := 4) (k := 1) (by unfold TB; omega) (fun cy => cel_TB ht) rfl hin (by decide) rfl hlink rfl hdg kk
theorem gp_4_tasks (X : Cx E ad cc nL own Ts fr lo) {t : Int} (ht : 0 ≤ t ∧ t < 6) {idx : Nat} {z : Int} (hin : ∀ w ∈ wsX40, w ∈ Ts) (hlink : Cond.fieldLink own idx "PricedPairs$Table" "tasks" "I" ∈ Ts) (hz : InR z) (hdg : decode cc pc = .ok (.putfield idx, 3)) (kk : WG E ad nL (up σ (TB t) 1 z) (pc + 3) lv st) : WG E ad nL σ pc lv (.int (iI z) :: .ref (ad (TB t)) :: st) :=
  g_put X (C := RX4) (T := TX4) (N := 4) (ci := 4) (k := 1) (ty0 := tyX4) (by unfold TB; omega) (fun cy => cel_TB ht) rfl hin tyX4_ok nmX4 (by decide) rfl hlink rfl (by decide +kernel) (Nat.le_of_ble_eq_true rfl) (fun cy => by rw [cel_TB ht]; simp [up]) hz hdg kk
theorem gf_4_idleCosts (X : Cx E ad cc nL own Ts fr lo) {t : Int} (ht : 0 ≤ t ∧ t < 6) {idx : Nat} (hin : ∀ w ∈ wsX40, w ∈ Ts) (hlink : Cond.fieldLink own idx "PricedPairs$Table" "idleCosts" "[I" ∈ Ts) (hdg : decode cc pc = .ok (.getfield idx, 3)) (kk : WG E ad nL σ (pc + 3) lv (.ref (ad (TI t)) :: st)) : WG E ad nL σ pc lv (.ref (ad (TB t)) :: st) :=
  g_get X (C := RX4) (T := TX4) (N := 4) (ci := 4) (k := 2) (by unfold TB; omega) (fun cy => cel_TB ht) rfl hin (by decide) rfl hlink rfl hdg kk
theorem gf_4_costs (X : Cx E ad cc nL own Ts fr lo) {t : Int} (ht : 0 ≤ t ∧ t < 6) {idx : Nat} (hin : ∀ w ∈ wsX40, w ∈ Ts) (hlink : Cond.fieldLink own idx "PricedPairs$Table" "costs" "[[I" ∈ Ts) (hdg : decode cc pc = .ok (.getfield idx, 3)) (kk : WG E ad nL σ (pc + 3) lv (.ref (ad (TC t)) :: st)) : WG E ad nL σ pc lv (.ref (ad (TB t)) :: st) :=
  g_get X (C := RX4) (T := TX4) (N := 4) (ci := 4) (k := 3) (by unfold TB; omega) (fun cy => cel_TB ht) rfl hin (by decide) rfl hlink rfl hdg kk
theorem gf_5_length (X : Cx E ad cc nL own Ts fr lo) {idx : Nat} (hin : ∀ w ∈ wsX50, w ∈ Ts) (hlink : Cond.fieldLink own idx "PricedPairs$Text" "length" "I" ∈ Ts) (hdg : decode cc pc = .ok (.getfield idx, 3)) (kk : WG E ad nL σ (pc + 3) lv (.int (iI (σ 8 0)) :: st)) : WG E ad nL σ pc lv (.ref (ad 8) :: st) :=
  g_get X (C := RX5) (T := TX5) (N := 2) (ci := 5) (k := 0) (by omega) (fun cy => cel_8) rfl hin (by decide) rfl hlink rfl hdg kk
theorem gp_5_length (X : Cx E ad cc nL own Ts fr lo) {idx : Nat} {z : Int} (hin : ∀ w ∈ wsX50, w ∈ Ts) (hlink : Cond.fieldLink own idx "PricedPairs$Text" "length" "I" ∈ Ts) (hz : InR z) (hdg : decode cc pc = .ok (.putfield idx, 3)) (kk : WG E ad nL (up σ 8 0 z) (pc + 3) lv st) : WG E ad nL σ pc lv (.int (iI z) :: .ref (ad 8) :: st) :=
  g_put X (C := RX5) (T := TX5) (N := 2) (ci := 5) (k := 0) (ty0 := tyX5) (by omega) (fun cy => cel_8) rfl hin tyX5_ok nmX5 (by decide) rfl hlink rfl (by decide +kernel) (Nat.le_of_ble_eq_true rfl) (fun cy => by rw [cel_8]; simp [up]) hz hdg kk
theorem gf_5_signs (X : Cx E ad cc nL own Ts fr lo) {idx : Nat} (hin : ∀ w ∈ wsX50, w ∈ Ts) (hlink : Cond.fieldLink own idx "PricedPairs$Text" "signs" "[C" ∈ Ts) (hdg : decode cc pc = .ok (.getfield idx, 3)) (kk : WG E ad nL σ (pc + 3) lv (.ref (ad 9) :: st)) : WG E ad nL σ pc lv (.ref (ad 8) :: st) :=
  g_get X (C := RX5) (T := TX5) (N := 2) (ci := 5) (k := 1) (by omega) (fun cy => cel_8) rfl hin (by decide) rfl hlink rfl hdg kk
theorem gf_6_table (X : Cx E ad cc nL own Ts fr lo) {idx : Nat} (hin : ∀ w ∈ wsX60, w ∈ Ts) (hlink : Cond.fieldLink own idx "PricedPairs" "table" "LPricedPairs$Table;" ∈ Ts) (hdg : decode cc pc = .ok (.getfield idx, 3)) (kk : WG E ad nL σ (pc + 3) lv (.ref (ad (TB 0)) :: st)) : WG E ad nL σ pc lv (.ref (ad 0) :: st) :=
  g_get X (C := RX6) (T := TX6) (N := 6) (ci := 6) (k := 0) (by omega) (fun cy => cel_0) rfl hin (by decide) rfl hlink rfl hdg kk
theorem gf_6_history (X : Cx E ad cc nL own Ts fr lo) {idx : Nat} (hin : ∀ w ∈ wsX60, w ∈ Ts) (hlink : Cond.fieldLink own idx "PricedPairs" "history" "LPricedPairs$History;" ∈ Ts) (hdg : decode cc pc = .ok (.getfield idx, 3)) (kk : WG E ad nL σ (pc + 3) lv (.ref (ad 1) :: st)) : WG E ad nL σ pc lv (.ref (ad 0) :: st) :=
  g_get X (C := RX6) (T := TX6) (N := 6) (ci := 6) (k := 1) (by omega) (fun cy => cel_0) rfl hin (by decide) rfl hlink rfl hdg kk
theorem gf_6_plans (X : Cx E ad cc nL own Ts fr lo) {idx : Nat} (hin : ∀ w ∈ wsX60, w ∈ Ts) (hlink : Cond.fieldLink own idx "PricedPairs" "plans" "LPricedPairs$Plans;" ∈ Ts) (hdg : decode cc pc = .ok (.getfield idx, 3)) (kk : WG E ad nL σ (pc + 3) lv (.ref (ad 3) :: st)) : WG E ad nL σ pc lv (.ref (ad 0) :: st) :=
  g_get X (C := RX6) (T := TX6) (N := 6) (ci := 6) (k := 2) (by omega) (fun cy => cel_0) rfl hin (by decide) rfl hlink rfl hdg kk
theorem gf_6_prices (X : Cx E ad cc nL own Ts fr lo) {idx : Nat} (hin : ∀ w ∈ wsX60, w ∈ Ts) (hlink : Cond.fieldLink own idx "PricedPairs" "prices" "LPricedPairs$Prices;" ∈ Ts) (hdg : decode cc pc = .ok (.getfield idx, 3)) (kk : WG E ad nL σ (pc + 3) lv (.ref (ad 6) :: st)) : WG E ad nL σ pc lv (.ref (ad 0) :: st) :=
  g_get X (C := RX6) (T := TX6) (N := 6) (ci := 6) (k := 3) (by omega) (fun cy => cel_0) rfl hin (by decide) rfl hlink rfl hdg kk
theorem gf_6_text (X : Cx E ad cc nL own Ts fr lo) {idx : Nat} (hin : ∀ w ∈ wsX60, w ∈ Ts) (hlink : Cond.fieldLink own idx "PricedPairs" "text" "LPricedPairs$Text;" ∈ Ts) (hdg : decode cc pc = .ok (.getfield idx, 3)) (kk : WG E ad nL σ (pc + 3) lv (.ref (ad 8) :: st)) : WG E ad nL σ pc lv (.ref (ad 0) :: st) :=
  g_get X (C := RX6) (T := TX6) (N := 6) (ci := 6) (k := 4) (by omega) (fun cy => cel_0) rfl hin (by decide) rfl hlink rfl hdg kk
theorem gf_6_reader (X : Cx E ad cc nL own Ts fr lo) {idx : Nat} (hin : ∀ w ∈ wsX60, w ∈ Ts) (hlink : Cond.fieldLink own idx "PricedPairs" "reader" "LPricedPairs$Reader;" ∈ Ts) (hdg : decode cc pc = .ok (.getfield idx, 3)) (kk : WG E ad nL σ (pc + 3) lv (.ref (ad 10) :: st)) : WG E ad nL σ pc lv (.ref (ad 0) :: st) :=
  g_get X (C := RX6) (T := TX6) (N := 6) (ci := 6) (k := 5) (by omega) (fun cy => cel_0) rfl hin (by decide) rfl hlink rfl hdg kk
end HEAP
end
section
/-! MY CALLS: a contract in the layer's words, its proof's head, its use -/
def MGE (E : EV) (y : MethodName) (ws : List Cond) (fr lo : Nat) (ad : Int → Nat) (σ : St) (avs : List Value) (post : Option Int → St → Prop) : Prop := match E with
  | (p, l, e, R, s, m, args, below, meth, c, Q, D, cy, A, k, n) => MG l y ws fr lo D ad cy σ avs post
def PI (P : Int → St → Prop) : Option Int → St → Prop := fun r σ' => ∃ z, r = some z ∧ InR z ∧ P z σ'
def PV (P : St → Prop) : Option Int → St → Prop := fun r σ' => r = none ∧ P σ'
theorem MGE.of {E0 : EV} {y : MethodName} {ws ws' : List Cond} {fr lo : Nat} {ad : Int → Nat} {σ : St} {avs : List Value} {post : Option Int → St → Prop} {cc : ByteArray} {maxL : Nat} {ret : Option FieldType} {own : String} (lv0 : List (Option Value)) (hy : plainName y.cls = true) (hw : ws = Cond.code y cc maxL ret :: ws') (hown : y.cls = own) (hlen : avs.length ≤ maxL) (hcat0 : avs.all (fun v => v.category == 1) = true) (hlv0 : avs.map some ++ List.replicate (maxL - avs.length) none = lv0) (body : ∀ E : EV, Cx E ad cc maxL own ws fr lo → Rt E ad ret post → WG E ad maxL σ 0 lv0 []) : MGE E0 y ws fr lo ad σ avs post := by
  obtain ⟨p0, l, e0, R0, s0, m0, args0, below0, meth0, c0, Q0, D, cy, A0, k0, n0⟩ := E0
  show Met _ _ _ _ _ _ _ _ _
  have hcat : ∀ v ∈ avs, v.category = 1 := fun v hv => by
    have := List.all_eq_true.mp hcat0 v hv
    simpa using this
  have hlv : ∀ (i : Nat) (v : Value), lv0[i]? = some (some v) → avs[i]? = some v := by
    intro i v h
    rw [← hlv0] at h
    by_cases hi : i < avs.length
    · rw [List.getElem?_append_left (by simpa using hi), List.getElem?_map] at h
      cases h9 : avs[i]? with
      | none => rw [h9] at h; cases h
      | some x => rw [h9] at h; cases h; rfl
    · rw [List.getElem?_append_right (by simpa using hi), List.getElem?_replicate] at h
      split at h <;> cases h
  refine Met.ofW (cc := cc) (maxL := maxL) (ret := ret) hy hw ?_
  intro p e s m args below meth c s₁ B hml hv
  obtain ⟨rfl, hP, hK, hAp, hRG⟩ := hv
  have hts := atoms_spec (ws := ws) B.pre
  have hown1 : s.vm.findClass own = some m.cls := by rw [← hown]; exact findClass_of_methodNamed B.named
  have hsl : ∀ vs : List Value, (∀ v ∈ vs, v.category = 1) → (lg_sl vs).length = vs.length := by
    intro vs
    induction vs with
    | nil => intro _; rfl
    | cons a t ih =>
      intro h
      have h1 := ih (fun v hv => h v (List.mem_cons_of_mem _ hv))
      have h2 := h a List.mem_cons_self
      cases a <;> simp_all [lg_sl, Value.category]
  have hargs : ∀ (vs : List Value) (j : Nat), (∀ v ∈ vs, v.category = 1) → ∀ (i : Nat) (v : Value), vs[i]? = some v → (j + i, v) ∈ lv_args j vs := by
    intro vs
    induction vs with
    | nil => intro j _ i v h; simp at h
    | cons a t ih =>
      intro j h i v hi
      have h2 := h a List.mem_cons_self
      cases i with
      | zero =>
        simp at hi
        subst hi
        simp [lv_args]
      | succ i =>
        have h3 := ih (j + 1) (fun v hv => h v (List.mem_cons_of_mem _ hv)) i v (by simpa using hi)
        have e9 : j + (i + 1) = j + 1 + i := by omega
        rw [e9]
        unfold lv_args
        rw [h2]
        exact List.mem_cons_of_mem _ h3
  have hl := lv_entry avs (n := maxL) (by rw [hsl avs hcat]; exact hlen)
  rw [lg_entry_eq]
  have hb := body (p, l, e, (headSpec ws { frames := fr, cells := 0, slots := 0, locals := lo }).room, s, m, avs.toArray, below, meth, c, MQ below (GQ D ad cy post) avs.toArray s 0 0 (AA ad), D, cy, AA ad, 0, 0) ⟨B.exec, B.bytes, hml, hown1, hts, hK, hAp, fun q h1 h2 => ⟨q, h1, h2, rfl⟩, Nat.le_refl _, Nat.le_refl _, Nat.le_refl _, Nat.le_refl _⟩ ⟨B.returns, B.notSynchronized, rfl, rfl, rfl, rfl⟩
  exact hb hRG s.heap [] _ hP va_S.rf ⟨hl.1, hl.2.1, fun i v hv => hl.2.2 (i, v) (by
    have := hargs avs 0 hcat i v (hlv i v hv)
    rwa [Nat.zero_add] at this)⟩
section CALLS
variable {E : EV} {ad : Int → Nat} {cc : ByteArray} {nL : Nat} {own : String} {Ts : List Cond} {fr lo : Nat} {σ : St} {pc : Nat} {lv : List (Option Value)} {st : List Value}
/-- an object of a class -/
def Ob (q : Int) (C : String) : Prop := (0 ≤ q ∧ q < 82) ∧ ∃ (ci : Nat) (T : u_T) (N : Nat), vwCl[ci]? = some (C, T, N) ∧ ∀ (ad : Int → Nat) (cy : CY) (σ : St), ∃ fs, cel ad cy σ q = .inr (ci, fs)
theorem ob_TB {t : Int} (h : 0 ≤ t ∧ t < 6) : Ob (TB t) RX4 := ⟨by unfold TB; omega, 4, TX4, 4, rfl, fun ad cy σ => ⟨_, cel_TB h⟩⟩
theorem ob_0 : Ob 0 RX6 := ⟨by omega, 6, TX6, 6, rfl, fun ad cy σ => ⟨_, cel_0⟩⟩
theorem ob_1 : Ob 1 RX0 := ⟨by omega, 0, TX0, 2, rfl, fun ad cy σ => ⟨_, cel_1⟩⟩
theorem ob_3 : Ob 3 RX1 := ⟨by omega, 1, TX1, 4, rfl, fun ad cy σ => ⟨_, cel_3⟩⟩
theorem ob_6 : Ob 6 RX2 := ⟨by omega, 2, TX2, 3, rfl, fun ad cy σ => ⟨_, cel_6⟩⟩
theorem ob_8 : Ob 8 RX5 := ⟨by omega, 5, TX5, 2, rfl, fun ad cy σ => ⟨_, cel_8⟩⟩
theorem ob_10 : Ob 10 RX3 := ⟨by omega, 3, TX3, 4, rfl, fun ad cy σ => ⟨_, cel_10⟩⟩
/-- behind a call: the answer and the new state -/
theorem g_after {p : Program} {l : Launch} {e : Env} {R : Room} {s : State} {m : MethodId} {args : Array Value} {below : List Frame} {meth : Method} {c : Code} {Q : State → Prop} {D : va_G} {cy : CY} {A : Nat → Prop} {kc ks : Nat} {H : Heap} {locs : List Loc} {ls : Array Slot} {st0 : List Value} {a : Array Value} {post : Option Int → St → Prop} (hA : ∀ q : Int, 0 ≤ q → q < 83 → A (ad q)) (hr : va_Run p l e R s m args below meth c H locs kc ks 0 0 (F0 m pc ls st0) st (GQ D ad cy post a) (AA ad)) (hS : va_S A s.heap H locs) (hl : LV ls nL lv)
    (kk : ∀ (r : Option Int) (σ' : St), post r σ' → WG (p, l, e, R, s, m, args, below, meth, c, Q, D, cy, A, kc, ks) ad nL σ' (pc + 3) lv ((rO r).toList ++ st)) : W p l e R s m args below meth c H locs kc ks Q (F0 m pc ls st0) := by
  intro T hT X
  obtain ⟨v, st₀, t, T', L, h0, X', hL, e1, e2, ⟨⟨r, σ', hv, hp, hW⟩, hz, hk⟩, hst⟩ := hr T hT X
  cases hv
  rw [h0] at hz hk
  have hAA : ∀ q, AA ad q → A q := fun q h => by
    obtain ⟨x, h1, h2, h3⟩ := h
    rw [h3]
    exact hA x h1 h2
  obtain ⟨t2, a1, b1⟩ := kk r σ' hp hW.2.2.2 T'.heap (locs ++ L) ls (by rw [e1]; exact hW.1)
    ⟨Nat.le_trans hS.1 (by rw [e1]; exact hz), fun q h1 h2 => by rw [e1, hk q (Nat.lt_of_lt_of_le h1 hS.1) (fun z => h2 (hAA q z))]; exact hS.2.1 q h1 h2, fun q hq => by
      rcases List.mem_append.mp hq with h | h
      · exact hS.2.2 q h
      · exact hAA _ (hL q h)⟩ hl T' rfl X'
  exact ⟨t2, hst t2 a1, b1⟩
theorem g_callV (X : Cx E ad cc nL own Ts fr lo) {y : MethodName} {ws ws' : List Cond} {fr' lo' maxL n idx : Nat} {bytes : ByteArray} {ret : Option FieldType} {C : String} {q : Int} {As : List Value} {post : Option Int → St → Prop} (hM : MGE E y ws fr' lo' ad σ (.ref (ad q) :: As) post) (hG : GoodIn Ts (wsV own idx C y ws)) (hw : ws = Cond.code y bytes maxL ret :: ws') (hd : y.cls = C ∧ y.cls ≠ "java/lang/invoke/MethodHandle" ∧ y.cls ≠ "java/lang/invoke/VarHandle" ∧ (parseMethodDescriptor y.desc).map (fun d => d.parameters.length) = some n) (hn : As.length = n) (hR : fr' + 1 ≤ fr ∧ 8 + (maxL + 11) + lo' ≤ lo) (hO : Ob q C) (hcat : (st.map fun v => v.category).sum ≤ 8) (hdg : decode cc pc = .ok (.invokevirtual idx, 3))
    (kk : ∀ (r : Option Int) (σ' : St), post r σ' → WG E ad nL σ' (pc + 3) lv ((rO r).toList ++ st)) : WG E ad nL σ pc lv (As.reverse ++ .ref (ad q) :: st) := by
  obtain ⟨p, l, e, R, s, m, args, below, meth, c, Q, D, cy, A, kc, ks⟩ := E
  obtain ⟨hx, hb, hml, hown, hts, hK, hAp, hAA, hkc, hks, hfr, hlo⟩ := X
  intro hRG H locs ls hP hS hl
  obtain ⟨hq, ci, T, N, hcl, hc⟩ := hO
  obtain ⟨fs, hc⟩ := hc ad cy σ
  have h1 := gw_at (ad := ad) (cy := cy) (σ := σ) hq
  rw [hc] at h1
  have hrun := va_runV (p := p) (e := e) (R := R) (m := m) (below := below) (meth := meth) (locs := locs) (cells := kc) (slots := ks) (g := F0 m pc ls (As.reverse ++ .ref (ad q) :: st)) (As := As) (rest := st) ⟨hx, hb, hml, hown, hts⟩ hM (cwV n hts hG hw rfl rfl hd ⟨Nat.le_trans hR.1 hfr, Nat.le_trans hR.2 hlo⟩) ⟨fun a U g mk q => ⟨q.1, q.2.calling⟩, va_recv hK hP hcl h1, fun U hU hW => ⟨rfl, by rw [hU]; exact hP, va_K.moved hW.alike hK, hAp, hRG⟩⟩ rfl hn hl.1 rfl (lv_room hcat) hdg ⟨hkc, hks⟩
  exact g_after hAA hrun hS hl kk
theorem g_callS (X : Cx E ad cc nL own Ts fr lo) {y : MethodName} {ws ws' : List Cond} {fr' lo' maxL n idx : Nat} {bytes : ByteArray} {ret : Option FieldType} {As : List Value} {post : Option Int → St → Prop} (hM : MGE E y ws fr' lo' ad σ As post) (hG : GoodIn Ts (wsS own idx y ws)) (hw : ws = Cond.code y bytes maxL ret :: ws') (hd : y.cls = own ∧ y.cls ≠ "java/lang/invoke/MethodHandle" ∧ y.cls ≠ "java/lang/invoke/VarHandle" ∧ (parseMethodDescriptor y.desc).map (fun d => d.parameters.length) = some n) (hn : As.length = n) (hR : fr' + 1 ≤ fr ∧ 8 + (maxL + 11) + lo' ≤ lo) (hcat : (st.map fun v => v.category).sum ≤ 8) (hdg : decode cc pc = .ok (.invokestatic idx, 3))
    (kk : ∀ (r : Option Int) (σ' : St), post r σ' → WG E ad nL σ' (pc + 3) lv ((rO r).toList ++ st)) : WG E ad nL σ pc lv (As.reverse ++ st) := by
  obtain ⟨p, l, e, R, s, m, args, below, meth, c, Q, D, cy, A, kc, ks⟩ := E
  obtain ⟨hx, hb, hml, hown, hts, hK, hAp, hAA, hkc, hks, hfr, hlo⟩ := X
  intro hRG H locs ls hP hS hl
  have hrun := va_runS (p := p) (e := e) (R := R) (m := m) (below := below) (meth := meth) (locs := locs) (cells := kc) (slots := ks) (g := F0 m pc ls (As.reverse ++ st)) (As := As) (rest := st) ⟨hx, hb, hml, hown, hts⟩ hM (cwS n hts hG hw rfl rfl hd ⟨Nat.le_trans hR.1 hfr, Nat.le_trans hR.2 hlo⟩) ⟨fun a U g mk q => ⟨q.1, q.2.calling⟩, fun U hU hW => ⟨rfl, by rw [hU]; exact hP, va_K.moved hW.alike hK, hAp, hRG⟩⟩ rfl hn hl.1 rfl (lv_room hcat) hdg ⟨hkc, hks⟩
  exact g_after hAA hrun hS hl kk
theorem k_I {P : Int → St → Prop} {k : Option Int → St → Prop} (h : ∀ (z : Int) (σ' : St), InR z → P z σ' → k (some z) σ') : ∀ (r : Option Int) (σ' : St), PI P r σ' → k r σ' := by
  rintro r σ' ⟨z, rfl, h1, h2⟩
  exact h z σ' h1 h2
theorem k_V {P : St → Prop} {k : Option Int → St → Prop} (h : ∀ (σ' : St), P σ' → k none σ') : ∀ (r : Option Int) (σ' : St), PV P r σ' → k r σ' := by
  rintro r σ' ⟨rfl, h2⟩
  exact h σ' h2
/-! a call by how many arguments it has, and by its contract's kind: I a number, F a number and a state that are known, V nothing, W nothing and a state that is known -/
def PF (f : Int) (g : St) : Option Int → St → Prop := fun r σ' => r = some f ∧ InR f ∧ σ' = g
def PW (g : St) : Option Int → St → Prop := fun r σ' => r = none ∧ σ' = g
theorem k_F {f : Int} {g : St} {k : Option Int → St → Prop} (h : InR f → k (some f) g) : ∀ (r : Option Int) (σ' : St), PF f g r σ' → k r σ' := by
  rintro r σ' ⟨rfl, h1, rfl⟩
  exact h h1
theorem k_W {g : St} {k : Option Int → St → Prop} (h : k none g) : ∀ (r : Option Int) (σ' : St), PW g r σ' → k r σ' := by
  rintro r σ' ⟨rfl, rfl⟩
  exact h
theorem g_I0 (X : Cx E ad cc nL own Ts fr lo) {y : MethodName} {ws ws' : List Cond} {fr' lo' maxL idx : Nat} {bytes : ByteArray} {ret : Option FieldType} {C : String} {q : Int} {P : Int → St → Prop} (hM : MGE E y ws fr' lo' ad σ [.ref (ad q)] (PI P)) (hG : GoodIn Ts (wsV own idx C y ws)) (hw : ws = Cond.code y bytes maxL ret :: ws') (hd : y.cls = C ∧ y.cls ≠ "java/lang/invoke/MethodHandle" ∧ y.cls ≠ "java/lang/invoke/VarHandle" ∧ (parseMethodDescriptor y.desc).map (fun d => d.parameters.length) = some 0) (hR : fr' + 1 ≤ fr ∧ 8 + (maxL + 11) + lo' ≤ lo) (hO : Ob q C) (hcat : (st.map fun v => v.category).sum ≤ 8) (hdg : decode cc pc = .ok (.invokevirtual idx, 3)) (kk : ∀ (z : Int) (σ' : St), InR z → P z σ' → WG E ad nL σ' (pc + 3) lv (.int (iI z) :: st)) : WG E ad nL σ pc lv (.ref (ad q) :: st) :=
  g_callV X (As := []) hM hG hw hd rfl hR hO hcat hdg (k_I (k := fun r σ' => WG E ad nL σ' (pc + 3) lv ((rO r).toList ++ st)) kk)
theorem g_F0 (X : Cx E ad cc nL own Ts fr lo) {y : MethodName} {ws ws' : List Cond} {fr' lo' maxL idx : Nat} {bytes : ByteArray} {ret : Option FieldType} {C : String} {q : Int} {f : Int} {g : St} (hM : MGE E y ws fr' lo' ad σ [.ref (ad q)] (PF f g)) (hG : GoodIn Ts (wsV own idx C y ws)) (hw : ws = Cond.code y bytes maxL ret :: ws') (hd : y.cls = C ∧ y.cls ≠ "java/lang/invoke/MethodHandle" ∧ y.cls ≠ "java/lang/invoke/VarHandle" ∧ (parseMethodDescriptor y.desc).map (fun d => d.parameters.length) = some 0) (hR : fr' + 1 ≤ fr ∧ 8 + (maxL + 11) + lo' ≤ lo) (hO : Ob q C) (hcat : (st.map fun v => v.category).sum ≤ 8) (hdg : decode cc pc = .ok (.invokevirtual idx, 3)) (kk : InR f → WG E ad nL g (pc + 3) lv (.int (iI f) :: st)) : WG E ad nL σ pc lv (.ref (ad q) :: st) :=
  g_callV X (As := []) hM hG hw hd rfl hR hO hcat hdg (k_F (k := fun r σ' => WG E ad nL σ' (pc + 3) lv ((rO r).toList ++ st)) kk)
theorem g_V0 (X : Cx E ad cc nL own Ts fr lo) {y : MethodName} {ws ws' : List Cond} {fr' lo' maxL idx : Nat} {bytes : ByteArray} {ret : Option FieldType} {C : String} {q : Int} {P : St → Prop} (hM : MGE E y ws fr' lo' ad σ [.ref (ad q)] (PV P)) (hG : GoodIn Ts (wsV own idx C y ws)) (hw : ws = Cond.code y bytes maxL ret :: ws') (hd : y.cls = C ∧ y.cls ≠ "java/lang/invoke/MethodHandle" ∧ y.cls ≠ "java/lang/invoke/VarHandle" ∧ (parseMethodDescriptor y.desc).map (fun d => d.parameters.length) = some 0) (hR : fr' + 1 ≤ fr ∧ 8 + (maxL + 11) + lo' ≤ lo) (hO : Ob q C) (hcat : (st.map fun v => v.category).sum ≤ 8) (hdg : decode cc pc = .ok (.invokevirtual idx, 3)) (kk : ∀ (σ' : St), P σ' → WG E ad nL σ' (pc + 3) lv st) : WG E ad nL σ pc lv (.ref (ad q) :: st) :=
  g_callV X (As := []) hM hG hw hd rfl hR hO hcat hdg (k_V (k := fun r σ' => WG E ad nL σ' (pc + 3) lv ((rO r).toList ++ st)) kk)
theorem g_W0 (X : Cx E ad cc nL own Ts fr lo) {y : MethodName} {ws ws' : List Cond} {fr' lo' maxL idx : Nat} {bytes : ByteArray} {ret : Option FieldType} {C : String} {q : Int} {g : St} (hM : MGE E y ws fr' lo' ad σ [.ref (ad q)] (PW g)) (hG : GoodIn Ts (wsV own idx C y ws)) (hw : ws = Cond.code y bytes maxL ret :: ws') (hd : y.cls = C ∧ y.cls ≠ "java/lang/invoke/MethodHandle" ∧ y.cls ≠ "java/lang/invoke/VarHandle" ∧ (parseMethodDescriptor y.desc).map (fun d => d.parameters.length) = some 0) (hR : fr' + 1 ≤ fr ∧ 8 + (maxL + 11) + lo' ≤ lo) (hO : Ob q C) (hcat : (st.map fun v => v.category).sum ≤ 8) (hdg : decode cc pc = .ok (.invokevirtual idx, 3)) (kk : WG E ad nL g (pc + 3) lv st) : WG E ad nL σ pc lv (.ref (ad q) :: st) :=
  g_callV X (As := []) hM hG hw hd rfl hR hO hcat hdg (k_W (k := fun r σ' => WG E ad nL σ' (pc + 3) lv ((rO r).toList ++ st)) kk)
theorem g_I1 (X : Cx E ad cc nL own Ts fr lo) {y : MethodName} {ws ws' : List Cond} {fr' lo' maxL idx : Nat} {bytes : ByteArray} {ret : Option FieldType} {C : String} {q : Int} {a1 : Value} {P : Int → St → Prop} (hM : MGE E y ws fr' lo' ad σ [.ref (ad q), a1] (PI P)) (hG : GoodIn Ts (wsV own idx C y ws)) (hw : ws = Cond.code y bytes maxL ret :: ws') (hd : y.cls = C ∧ y.cls ≠ "java/lang/invoke/MethodHandle" ∧ y.cls ≠ "java/lang/invoke/VarHandle" ∧ (parseMethodDescriptor y.desc).map (fun d => d.parameters.length) = some 1) (hR : fr' + 1 ≤ fr ∧ 8 + (maxL + 11) + lo' ≤ lo) (hO : Ob q C) (hcat : (st.map fun v => v.category).sum ≤ 8) (hdg : decode cc pc = .ok (.invokevirtual idx, 3)) (kk : ∀ (z : Int) (σ' : St), InR z → P z σ' → WG E ad nL σ' (pc + 3) lv (.int (iI z) :: st)) : WG E ad nL σ pc lv (a1 :: .ref (ad q) :: st) :=
  g_callV X (As := [a1]) hM hG hw hd rfl hR hO hcat hdg (k_I (k := fun r σ' => WG E ad nL σ' (pc + 3) lv ((rO r).toList ++ st)) kk)
theorem g_SI1 (X : Cx E ad cc nL own Ts fr lo) {y : MethodName} {ws ws' : List Cond} {fr' lo' maxL idx : Nat} {bytes : ByteArray} {ret : Option FieldType} {a1 : Value} {P : Int → St → Prop} (hM : MGE E y ws fr' lo' ad σ [a1] (PI P)) (hG : GoodIn Ts (wsS own idx y ws)) (hw : ws = Cond.code y bytes maxL ret :: ws') (hd : y.cls = own ∧ y.cls ≠ "java/lang/invoke/MethodHandle" ∧ y.cls ≠ "java/lang/invoke/VarHandle" ∧ (parseMethodDescriptor y.desc).map (fun d => d.parameters.length) = some 1) (hR : fr' + 1 ≤ fr ∧ 8 + (maxL + 11) + lo' ≤ lo) (hcat : (st.map fun v => v.category).sum ≤ 8) (hdg : decode cc pc = .ok (.invokestatic idx, 3)) (kk : ∀ (z : Int) (σ' : St), InR z → P z σ' → WG E ad nL σ' (pc + 3) lv (.int (iI z) :: st)) : WG E ad nL σ pc lv (a1 :: st) :=
  g_callS X (As := [a1]) hM hG hw hd rfl hR hcat hdg (k_I (k := fun r σ' => WG E ad nL σ' (pc + 3) lv ((rO r).toList ++ st)) kk)
theorem g_F1 (X : Cx E ad cc nL own Ts fr lo) {y : MethodName} {ws ws' : List Cond} {fr' lo' maxL idx : Nat} {bytes : ByteArray} {ret : Option FieldType} {C : String} {q : Int} {a1 : Value} {f : Int} {g : St} (hM : MGE E y ws fr' lo' ad σ [.ref (ad q), a1] (PF f g)) (hG : GoodIn Ts (wsV own idx C y ws)) (hw : ws = Cond.code y bytes maxL ret :: ws') (hd : y.cls = C ∧ y.cls ≠ "java/lang/invoke/MethodHandle" ∧ y.cls ≠ "java/lang/invoke/VarHandle" ∧ (parseMethodDescriptor y.desc).map (fun d => d.parameters.length) = some 1) (hR : fr' + 1 ≤ fr ∧ 8 + (maxL + 11) + lo' ≤ lo) (hO : Ob q C) (hcat : (st.map fun v => v.category).sum ≤ 8) (hdg : decode cc pc = .ok (.invokevirtual idx, 3)) (kk : InR f → WG E ad nL g (pc + 3) lv (.int (iI f) :: st)) : WG E ad nL σ pc lv (a1 :: .ref (ad q) :: st) :=
  g_callV X (As := [a1]) hM hG hw hd rfl hR hO hcat hdg (k_F (k := fun r σ' => WG E ad nL σ' (pc + 3) lv ((rO r).toList ++ st)) kk)
theorem g_SF1 (X : Cx E ad cc nL own Ts fr lo) {y : MethodName} {ws ws' : List Cond} {fr' lo' maxL idx : Nat} {bytes : ByteArray} {ret : Option FieldType} {a1 : Value} {f : Int} {g : St} (hM : MGE E y ws fr' lo' ad σ [a1] (PF f g)) (hG : GoodIn Ts (wsS own idx y ws)) (hw : ws = Cond.code y bytes maxL ret :: ws') (hd : y.cls = own ∧ y.cls ≠ "java/lang/invoke/MethodHandle" ∧ y.cls ≠ "java/lang/invoke/VarHandle" ∧ (parseMethodDescriptor y.desc).map (fun d => d.parameters.length) = some 1) (hR : fr' + 1 ≤ fr ∧ 8 + (maxL + 11) + lo' ≤ lo) (hcat : (st.map fun v => v.category).sum ≤ 8) (hdg : decode cc pc = .ok (.invokestatic idx, 3)) (kk : InR f → WG E ad nL g (pc + 3) lv (.int (iI f) :: st)) : WG E ad nL σ pc lv (a1 :: st) :=
  g_callS X (As := [a1]) hM hG hw hd rfl hR hcat hdg (k_F (k := fun r σ' => WG E ad nL σ' (pc + 3) lv ((rO r).toList ++ st)) kk)
theorem g_V1 (X : Cx E ad cc nL own Ts fr lo) {y : MethodName} {ws ws' : List Cond} {fr' lo' maxL idx : Nat} {bytes : ByteArray} {ret : Option FieldType} {C : String} {q : Int} {a1 : Value} {P : St → Prop} (hM : MGE E y ws fr' lo' ad σ [.ref (ad q), a1] (PV P)) (hG : GoodIn Ts (wsV own idx C y ws)) (hw : ws = Cond.code y bytes maxL ret :: ws') (hd : y.cls = C ∧ y.cls ≠ "java/lang/invoke/MethodHandle" ∧ y.cls ≠ "java/lang/invoke/VarHandle" ∧ (parseMethodDescriptor y.desc).map (fun d => d.parameters.length) = some 1) (hR : fr' + 1 ≤ fr ∧ 8 + (maxL + 11) + lo' ≤ lo) (hO : Ob q C) (hcat : (st.map fun v => v.category).sum ≤ 8) (hdg : decode cc pc = .ok (.invokevirtual idx, 3)) (kk : ∀ (σ' : St), P σ' → WG E ad nL σ' (pc + 3) lv st) : WG E ad nL σ pc lv (a1 :: .ref (ad q) :: st) :=
  g_callV X (As := [a1]) hM hG hw hd rfl hR hO hcat hdg (k_V (k := fun r σ' => WG E ad nL σ' (pc + 3) lv ((rO r).toList ++ st)) kk)
theorem g_W1 (X : Cx E ad cc nL own Ts fr lo) {y : MethodName} {ws ws' : List Cond} {fr' lo' maxL idx : Nat} {bytes : ByteArray} {ret : Option FieldType} {C : String} {q : Int} {a1 : Value} {g : St} (hM : MGE E y ws fr' lo' ad σ [.ref (ad q), a1] (PW g)) (hG : GoodIn Ts (wsV own idx C y ws)) (hw : ws = Cond.code y bytes maxL ret :: ws') (hd : y.cls = C ∧ y.cls ≠ "java/lang/invoke/MethodHandle" ∧ y.cls ≠ "java/lang/invoke/VarHandle" ∧ (parseMethodDescriptor y.desc).map (fun d => d.parameters.length) = some 1) (hR : fr' + 1 ≤ fr ∧ 8 + (maxL + 11) + lo' ≤ lo) (hO : Ob q C) (hcat : (st.map fun v => v.category).sum ≤ 8) (hdg : decode cc pc = .ok (.invokevirtual idx, 3)) (kk : WG E ad nL g (pc + 3) lv st) : WG E ad nL σ pc lv (a1 :: .ref (ad q) :: st) :=
  g_callV X (As := [a1]) hM hG hw hd rfl hR hO hcat hdg (k_W (k := fun r σ' => WG E ad nL σ' (pc + 3) lv ((rO r).toList ++ st)) kk)
theorem g_I2 (X : Cx E ad cc nL own Ts fr lo) {y : MethodName} {ws ws' : List Cond} {fr' lo' maxL idx : Nat} {bytes : ByteArray} {ret : Option FieldType} {C : String} {q : Int} {a1 a2 : Value} {P : Int → St → Prop} (hM : MGE E y ws fr' lo' ad σ [.ref (ad q), a1, a2] (PI P)) (hG : GoodIn Ts (wsV own idx C y ws)) (hw : ws = Cond.code y bytes maxL ret :: ws') (hd : y.cls = C ∧ y.cls ≠ "java/lang/invoke/MethodHandle" ∧ y.cls ≠ "java/lang/invoke/VarHandle" ∧ (parseMethodDescriptor y.desc).map (fun d => d.parameters.length) = some 2) (hR : fr' + 1 ≤ fr ∧ 8 + (maxL + 11) + lo' ≤ lo) (hO : Ob q C) (hcat : (st.map fun v => v.category).sum ≤ 8) (hdg : decode cc pc = .ok (.invokevirtual idx, 3)) (kk : ∀ (z : Int) (σ' : St), InR z → P z σ' → WG E ad nL σ' (pc + 3) lv (.int (iI z) :: st)) : WG E ad nL σ pc lv (a2 :: a1 :: .ref (ad q) :: st) :=
  g_callV X (As := [a1, a2]) hM hG hw hd rfl hR hO hcat hdg (k_I (k := fun r σ' => WG E ad nL σ' (pc + 3) lv ((rO r).toList ++ st)) kk)
theorem g_F2 (X : Cx E ad cc nL own Ts fr lo) {y : MethodName} {ws ws' : List Cond} {fr' lo' maxL idx : Nat} {bytes : ByteArray} {ret : Option FieldType} {C : String} {q : Int} {a1 a2 : Value} {f : Int} {g : St} (hM : MGE E y ws fr' lo' ad σ [.ref (ad q), a1, a2] (PF f g)) (hG : GoodIn Ts (wsV own idx C y ws)) (hw : ws = Cond.code y bytes maxL ret :: ws') (hd : y.cls = C ∧ y.cls ≠ "java/lang/invoke/MethodHandle" ∧ y.cls ≠ "java/lang/invoke/VarHandle" ∧ (parseMethodDescriptor y.desc).map (fun d => d.parameters.length) = some 2) (hR : fr' + 1 ≤ fr ∧ 8 + (maxL + 11) + lo' ≤ lo) (hO : Ob q C) (hcat : (st.map fun v => v.category).sum ≤ 8) (hdg : decode cc pc = .ok (.invokevirtual idx, 3)) (kk : InR f → WG E ad nL g (pc + 3) lv (.int (iI f) :: st)) : WG E ad nL σ pc lv (a2 :: a1 :: .ref (ad q) :: st) :=
  g_callV X (As := [a1, a2]) hM hG hw hd rfl hR hO hcat hdg (k_F (k := fun r σ' => WG E ad nL σ' (pc + 3) lv ((rO r).toList ++ st)) kk)
theorem g_V2 (X : Cx E ad cc nL own Ts fr lo) {y : MethodName} {ws ws' : List Cond} {fr' lo' maxL idx : Nat} {bytes : ByteArray} {ret : Option FieldType} {C : String} {q : Int} {a1 a2 : Value} {P : St → Prop} (hM : MGE E y ws fr' lo' ad σ [.ref (ad q), a1, a2] (PV P)) (hG : GoodIn Ts (wsV own idx C y ws)) (hw : ws = Cond.code y bytes maxL ret :: ws') (hd : y.cls = C ∧ y.cls ≠ "java/lang/invoke/MethodHandle" ∧ y.cls ≠ "java/lang/invoke/VarHandle" ∧ (parseMethodDescriptor y.desc).map (fun d => d.parameters.length) = some 2) (hR : fr' + 1 ≤ fr ∧ 8 + (maxL + 11) + lo' ≤ lo) (hO : Ob q C) (hcat : (st.map fun v => v.category).sum ≤ 8) (hdg : decode cc pc = .ok (.invokevirtual idx, 3)) (kk : ∀ (σ' : St), P σ' → WG E ad nL σ' (pc + 3) lv st) : WG E ad nL σ pc lv (a2 :: a1 :: .ref (ad q) :: st) :=
  g_callV X (As := [a1, a2]) hM hG hw hd rfl hR hO hcat hdg (k_V (k := fun r σ' => WG E ad nL σ' (pc + 3) lv ((rO r).toList ++ st)) kk)
theorem g_W2 (X : Cx E ad cc nL own Ts fr lo) {y : MethodName} {ws ws' : List Cond} {fr' lo' maxL idx : Nat} {bytes : ByteArray} {ret : Option FieldType} {C : String} {q : Int} {a1 a2 : Value} {g : St} (hM : MGE E y ws fr' lo' ad σ [.ref (ad q), a1, a2] (PW g)) (hG : GoodIn Ts (wsV own idx C y ws)) (hw : ws = Cond.code y bytes maxL ret :: ws') (hd : y.cls = C ∧ y.cls ≠ "java/lang/invoke/MethodHandle" ∧ y.cls ≠ "java/lang/invoke/VarHandle" ∧ (parseMethodDescriptor y.desc).map (fun d => d.parameters.length) = some 2) (hR : fr' + 1 ≤ fr ∧ 8 + (maxL + 11) + lo' ≤ lo) (hO : Ob q C) (hcat : (st.map fun v => v.category).sum ≤ 8) (hdg : decode cc pc = .ok (.invokevirtual idx, 3)) (kk : WG E ad nL g (pc + 3) lv st) : WG E ad nL σ pc lv (a2 :: a1 :: .ref (ad q) :: st) :=
  g_callV X (As := [a1, a2]) hM hG hw hd rfl hR hO hcat hdg (k_W (k := fun r σ' => WG E ad nL σ' (pc + 3) lv ((rO r).toList ++ st)) kk)
theorem g_I3 (X : Cx E ad cc nL own Ts fr lo) {y : MethodName} {ws ws' : List Cond} {fr' lo' maxL idx : Nat} {bytes : ByteArray} {ret : Option FieldType} {C : String} {q : Int} {a1 a2 a3 : Value} {P : Int → St → Prop} (hM : MGE E y ws fr' lo' ad σ [.ref (ad q), a1, a2, a3] (PI P)) (hG : GoodIn Ts (wsV own idx C y ws)) (hw : ws = Cond.code y bytes maxL ret :: ws') (hd : y.cls = C ∧ y.cls ≠ "java/lang/invoke/MethodHandle" ∧ y.cls ≠ "java/lang/invoke/VarHandle" ∧ (parseMethodDescriptor y.desc).map (fun d => d.parameters.length) = some 3) (hR : fr' + 1 ≤ fr ∧ 8 + (maxL + 11) + lo' ≤ lo) (hO : Ob q C) (hcat : (st.map fun v => v.category).sum ≤ 8) (hdg : decode cc pc = .ok (.invokevirtual idx, 3)) (kk : ∀ (z : Int) (σ' : St), InR z → P z σ' → WG E ad nL σ' (pc + 3) lv (.int (iI z) :: st)) : WG E ad nL σ pc lv (a3 :: a2 :: a1 :: .ref (ad q) :: st) :=
  g_callV X (As := [a1, a2, a3]) hM hG hw hd rfl hR hO hcat hdg (k_I (k := fun r σ' => WG E ad nL σ' (pc + 3) lv ((rO r).toList ++ st)) kk)
theorem g_SI3 (X : Cx E ad cc nL own Ts fr lo) {y : MethodName} {ws ws' : List Cond} {fr' lo' maxL idx : Nat} {bytes : ByteArray} {ret : Option FieldType} {a1 a2 a3 : Value} {P : Int → St → Prop} (hM : MGE E y ws fr' lo' ad σ [a1, a2, a3] (PI P)) (hG : GoodIn Ts (wsS own idx y ws)) (hw : ws = Cond.code y bytes maxL ret :: ws') (hd : y.cls = own ∧ y.cls ≠ "java/lang/invoke/MethodHandle" ∧ y.cls ≠ "java/lang/invoke/VarHandle" ∧ (parseMethodDescriptor y.desc).map (fun d => d.parameters.length) = some 3) (hR : fr' + 1 ≤ fr ∧ 8 + (maxL + 11) + lo' ≤ lo) (hcat : (st.map fun v => v.category).sum ≤ 8) (hdg : decode cc pc = .ok (.invokestatic idx, 3)) (kk : ∀ (z : Int) (σ' : St), InR z → P z σ' → WG E ad nL σ' (pc + 3) lv (.int (iI z) :: st)) : WG E ad nL σ pc lv (a3 :: a2 :: a1 :: st) :=
  g_callS X (As := [a1, a2, a3]) hM hG hw hd rfl hR hcat hdg (k_I (k := fun r σ' => WG E ad nL σ' (pc + 3) lv ((rO r).toList ++ st)) kk)
theorem g_F3 (X : Cx E ad cc nL own Ts fr lo) {y : MethodName} {ws ws' : List Cond} {fr' lo' maxL idx : Nat} {bytes : ByteArray} {ret : Option FieldType} {C : String} {q : Int} {a1 a2 a3 : Value} {f : Int} {g : St} (hM : MGE E y ws fr' lo' ad σ [.ref (ad q), a1, a2, a3] (PF f g)) (hG : GoodIn Ts (wsV own idx C y ws)) (hw : ws = Cond.code y bytes maxL ret :: ws') (hd : y.cls = C ∧ y.cls ≠ "java/lang/invoke/MethodHandle" ∧ y.cls ≠ "java/lang/invoke/VarHandle" ∧ (parseMethodDescriptor y.desc).map (fun d => d.parameters.length) = some 3) (hR : fr' + 1 ≤ fr ∧ 8 + (maxL + 11) + lo' ≤ lo) (hO : Ob q C) (hcat : (st.map fun v => v.category).sum ≤ 8) (hdg : decode cc pc = .ok (.invokevirtual idx, 3)) (kk : InR f → WG E ad nL g (pc + 3) lv (.int (iI f) :: st)) : WG E ad nL σ pc lv (a3 :: a2 :: a1 :: .ref (ad q) :: st) :=
  g_callV X (As := [a1, a2, a3]) hM hG hw hd rfl hR hO hcat hdg (k_F (k := fun r σ' => WG E ad nL σ' (pc + 3) lv ((rO r).toList ++ st)) kk)
theorem g_SF3 (X : Cx E ad cc nL own Ts fr lo) {y : MethodName} {ws ws' : List Cond} {fr' lo' maxL idx : Nat} {bytes : ByteArray} {ret : Option FieldType} {a1 a2 a3 : Value} {f : Int} {g : St} (hM : MGE E y ws fr' lo' ad σ [a1, a2, a3] (PF f g)) (hG : GoodIn Ts (wsS own idx y ws)) (hw : ws = Cond.code y bytes maxL ret :: ws') (hd : y.cls = own ∧ y.cls ≠ "java/lang/invoke/MethodHandle" ∧ y.cls ≠ "java/lang/invoke/VarHandle" ∧ (parseMethodDescriptor y.desc).map (fun d => d.parameters.length) = some 3) (hR : fr' + 1 ≤ fr ∧ 8 + (maxL + 11) + lo' ≤ lo) (hcat : (st.map fun v => v.category).sum ≤ 8) (hdg : decode cc pc = .ok (.invokestatic idx, 3)) (kk : InR f → WG E ad nL g (pc + 3) lv (.int (iI f) :: st)) : WG E ad nL σ pc lv (a3 :: a2 :: a1 :: st) :=
  g_callS X (As := [a1, a2, a3]) hM hG hw hd rfl hR hcat hdg (k_F (k := fun r σ' => WG E ad nL σ' (pc + 3) lv ((rO r).toList ++ st)) kk)
theorem g_V3 (X : Cx E ad cc nL own Ts fr lo) {y : MethodName} {ws ws' : List Cond} {fr' lo' maxL idx : Nat} {bytes : ByteArray} {ret : Option FieldType} {C : String} {q : Int} {a1 a2 a3 : Value} {P : St → Prop} (hM : MGE E y ws fr' lo' ad σ [.ref (ad q), a1, a2, a3] (PV P)) (hG : GoodIn Ts (wsV own idx C y ws)) (hw : ws = Cond.code y bytes maxL ret :: ws') (hd : y.cls = C ∧ y.cls ≠ "java/lang/invoke/MethodHandle" ∧ y.cls ≠ "java/lang/invoke/VarHandle" ∧ (parseMethodDescriptor y.desc).map (fun d => d.parameters.length) = some 3) (hR : fr' + 1 ≤ fr ∧ 8 + (maxL + 11) + lo' ≤ lo) (hO : Ob q C) (hcat : (st.map fun v => v.category).sum ≤ 8) (hdg : decode cc pc = .ok (.invokevirtual idx, 3)) (kk : ∀ (σ' : St), P σ' → WG E ad nL σ' (pc + 3) lv st) : WG E ad nL σ pc lv (a3 :: a2 :: a1 :: .ref (ad q) :: st) :=
  g_callV X (As := [a1, a2, a3]) hM hG hw hd rfl hR hO hcat hdg (k_V (k := fun r σ' => WG E ad nL σ' (pc + 3) lv ((rO r).toList ++ st)) kk)
theorem g_W3 (X : Cx E ad cc nL own Ts fr lo) {y : MethodName} {ws ws' : List Cond} {fr' lo' maxL idx : Nat} {bytes : ByteArray} {ret : Option FieldType} {C : String} {q : Int} {a1 a2 a3 : Value} {g : St} (hM : MGE E y ws fr' lo' ad σ [.ref (ad q), a1, a2, a3] (PW g)) (hG : GoodIn Ts (wsV own idx C y ws)) (hw : ws = Cond.code y bytes maxL ret :: ws') (hd : y.cls = C ∧ y.cls ≠ "java/lang/invoke/MethodHandle" ∧ y.cls ≠ "java/lang/invoke/VarHandle" ∧ (parseMethodDescriptor y.desc).map (fun d => d.parameters.length) = some 3) (hR : fr' + 1 ≤ fr ∧ 8 + (maxL + 11) + lo' ≤ lo) (hO : Ob q C) (hcat : (st.map fun v => v.category).sum ≤ 8) (hdg : decode cc pc = .ok (.invokevirtual idx, 3)) (kk : WG E ad nL g (pc + 3) lv st) : WG E ad nL σ pc lv (a3 :: a2 :: a1 :: .ref (ad q) :: st) :=
  g_callV X (As := [a1, a2, a3]) hM hG hw hd rfl hR hO hcat hdg (k_W (k := fun r σ' => WG E ad nL σ' (pc + 3) lv ((rO r).toList ++ st)) kk)
/-! ends -/
theorem g_iret (X : Cx E ad cc nL own Ts fr lo) {P : Int → St → Prop} {z : Int} (hr : Rt E ad (some .int) (PI P)) (hz : InR z) (hp : P z σ) (hdg : decode cc pc = .ok (.ireturn, 1)) : WG E ad nL σ pc lv [.int (iI z)] := by
  obtain ⟨p, l, e, R, s, m, args, below, meth, c, Q, D, cy, A, kc, ks⟩ := E
  obtain ⟨hx, hb, hml, hown, hts, hK, hAp, hAA, hkc, hks, hfr, hlo⟩ := X
  obtain ⟨h1, h2, rfl, rfl, -, -⟩ := hr
  intro hRG H locs ls hP hS hl
  exact W.iret (v := iI z) hx hb h1 (fun t ht hW => ⟨⟨some z, σ, rfl, ⟨z, rfl, hz, hp⟩, by rw [ht]; exact hP, va_K.moved hW.alike hK, hAp, hRG⟩, hS.F ht⟩) hS.2.2 hdg h2
theorem g_zret (X : Cx E ad cc nL own Ts fr lo) {P : Int → St → Prop} {z : Int} (hr : Rt E ad (some .boolean) (PI P)) (hz : z = 0 ∨ z = 1) (hp : P z σ) (hdg : decode cc pc = .ok (.ireturn, 1)) : WG E ad nL σ pc lv [.int (iI z)] := by
  obtain ⟨p, l, e, R, s, m, args, below, meth, c, Q, D, cy, A, kc, ks⟩ := E
  obtain ⟨hx, hb, hml, hown, hts, hK, hAp, hAA, hkc, hks, hfr, hlo⟩ := X
  obtain ⟨h1, h2, rfl, rfl, -, -⟩ := hr
  intro hRG H locs ls hP hS hl
  have hn : narrow .boolean (.int (iI z)) = .int (iI z) := by rcases hz with rfl | rfl <;> rfl
  exact W.zret (v := iI z) hx hb h1 hn (fun t ht hW => ⟨⟨some z, σ, rfl, ⟨z, rfl, by rcases hz with rfl | rfl <;> exact ⟨by omega, by omega⟩, hp⟩, by rw [ht]; exact hP, va_K.moved hW.alike hK, hAp, hRG⟩, hS.F ht⟩) hS.2.2 hdg h2
theorem g_vret (X : Cx E ad cc nL own Ts fr lo) {P : St → Prop} (hr : Rt E ad none (PV P)) (hp : P σ) (hdg : decode cc pc = .ok (.return_, 1)) : WG E ad nL σ pc lv [] := by
  obtain ⟨p, l, e, R, s, m, args, below, meth, c, Q, D, cy, A, kc, ks⟩ := E
  obtain ⟨hx, hb, hml, hown, hts, hK, hAp, hAA, hkc, hks, hfr, hlo⟩ := X
  obtain ⟨h1, h2, rfl, rfl, -, -⟩ := hr
  intro hRG H locs ls hP hS hl
  exact W.vret hx hb h1 (fun t ht hW => ⟨⟨none, σ, rfl, ⟨rfl, hp⟩, by rw [ht]; exact hP, va_K.moved hW.alike hK, hAp, hRG⟩, hS.F ht⟩) hS.2.2 hdg h2
theorem p_F {f : Int} {g : St} : PF f g = PI (fun z σ' => z = f ∧ σ' = g) := by
  funext r σ'
  apply propext
  constructor
  · rintro ⟨rfl, h1, rfl⟩
    exact ⟨f, rfl, h1, rfl, rfl⟩
  · rintro ⟨z, rfl, h1, rfl, rfl⟩
    exact ⟨rfl, h1, rfl⟩
theorem p_W {g : St} : PW g = PV (fun σ' => σ' = g) := rfl
theorem g_iretF (X : Cx E ad cc nL own Ts fr lo) {f z : Int} {g : St} (hr : Rt E ad (some .int) (PF f g)) (hz : InR z) (hp : z = f ∧ σ = g) (hdg : decode cc pc = .ok (.ireturn, 1)) : WG E ad nL σ pc lv [.int (iI z)] := by
  rw [p_F] at hr
  exact g_iret X hr hz hp hdg
theorem g_zretF (X : Cx E ad cc nL own Ts fr lo) {f z : Int} {g : St} (hr : Rt E ad (some .boolean) (PF f g)) (hz : z = 0 ∨ z = 1) (hp : z = f ∧ σ = g) (hdg : decode cc pc = .ok (.ireturn, 1)) : WG E ad nL σ pc lv [.int (iI z)] := by
  rw [p_F] at hr
  exact g_zret X hr hz hp hdg
theorem g_vretW (X : Cx E ad cc nL own Ts fr lo) {g : St} (hr : Rt E ad none (PW g)) (hp : σ = g) (hdg : decode cc pc = .ok (.return_, 1)) : WG E ad nL σ pc lv [] := g_vret X (P := fun σ' => σ' = g) hr hp hdg
/-! Math.min, Math.max -/
theorem g_min (X : Cx E ad cc nL own Ts fr lo) {idx : Nat} {a b : Int} (ha : InR a) (hb0 : InR b) (h1 : Cond.methodLink own idx Lib.Math.min.name ∈ Ts) (h2 : Cond.static Lib.Math.min.name ∈ Ts) (h3 : Cond.initialized "java/lang/Math" ∈ Ts) (h4 : Cond.code Lib.Math.min.name Lib.Math.min.code 2 (some .int) ∈ Ts) (hR : 1 ≤ fr ∧ 21 ≤ lo) (hcat : (st.map fun v => v.category).sum ≤ 8) (hdg : decode cc pc = .ok (.invokestatic idx, 3)) (kk : WG E ad nL σ (pc + 3) lv (.int (iI (min a b)) :: st)) : WG E ad nL σ pc lv (.int (iI b) :: .int (iI a) :: st) := by
  obtain ⟨p, l, e, R, s, m, args, below, meth, c, Q, D, cy, A, kc, ks⟩ := E
  obtain ⟨hx, hb, hml, hown, hts, hK, hAp, hAA, hkc, hks, hfr, hlo⟩ := X
  intro hRG H locs ls hP hS hl
  refine va_mmin hx hb (hml.trans hl.1.symm) hown (hts _ h1) (hts _ h2) (hts _ h3) (hts _ h4) (Nat.le_trans hR.1 hfr) (by omega) hkc hks hdg ?_
  rw [show (if iI b < iI a then iI b else iI a) = iI (min a b) from by
    by_cases h : b < a
    · rw [if_pos ((iI_lt hb0 ha).mpr h), Int.min_eq_right (by omega)]
    · rw [if_neg (fun q => h ((iI_lt hb0 ha).mp q)), Int.min_eq_left (by omega)]]
  exact kk hRG H locs ls hP hS hl
theorem g_max (X : Cx E ad cc nL own Ts fr lo) {idx : Nat} {a b : Int} (ha : InR a) (hb0 : InR b) (h1 : Cond.methodLink own idx Lib.Math.max.name ∈ Ts) (h2 : Cond.static Lib.Math.max.name ∈ Ts) (h3 : Cond.initialized "java/lang/Math" ∈ Ts) (h4 : Cond.code Lib.Math.max.name Lib.Math.max.code 2 (some .int) ∈ Ts) (hR : 1 ≤ fr ∧ 21 ≤ lo) (hcat : (st.map fun v => v.category).sum ≤ 8) (hdg : decode cc pc = .ok (.invokestatic idx, 3)) (kk : WG E ad nL σ (pc + 3) lv (.int (iI (max a b)) :: st)) : WG E ad nL σ pc lv (.int (iI b) :: .int (iI a) :: st) := by
  obtain ⟨p, l, e, R, s, m, args, below, meth, c, Q, D, cy, A, kc, ks⟩ := E
  obtain ⟨hx, hb, hml, hown, hts, hK, hAp, hAA, hkc, hks, hfr, hlo⟩ := X
  intro hRG H locs ls hP hS hl
  refine va_mmax hx hb (hml.trans hl.1.symm) hown (hts _ h1) (hts _ h2) (hts _ h3) (hts _ h4) (Nat.le_trans hR.1 hfr) (by omega) hkc hks hdg ?_
  rw [show (if iI a < iI b then iI b else iI a) = iI (max a b) from by
    by_cases h : a < b
    · rw [if_pos ((iI_lt ha hb0).mpr h), Int.max_eq_right (by omega)]
    · rw [if_neg (fun q => h ((iI_lt ha hb0).mp q)), Int.max_eq_left (by omega)]]
  exact kk hRG H locs ls hP hS hl
end CALLS
end
section
/-! bits of small sets, in whole numbers -/
def p2 (k : Int) : Int := 2 ^ k.toNat
def bt (m k : Int) : Int := m / p2 k % 2
def sb (m k : Int) : Int := if bt m k = 1 then m else m + p2 k
def ub (m k : Int) : Int := if bt m k = 1 then m - p2 k else m
theorem b_shl {k : Int} (h : 0 ≤ k ∧ k ≤ 8) : iI 1 <<< (iI k &&& 31) = iI (p2 k) := by
  obtain ⟨n, rfl⟩ := Int.eq_ofNat_of_zero_le h.1
  have hn : n < 9 := by omega
  have key : ∀ n : Nat, n < 9 → iI 1 <<< (iI (n : Int) &&& 31) = iI (p2 (n : Int)) := by decide +kernel
  exact key n hn
theorem b_shr {m k : Int} (hm : 0 ≤ m ∧ m < 256) (h : 0 ≤ k ∧ k ≤ 8) : iI m >>> (iI k &&& 31) = iI (m / p2 k) := by
  obtain ⟨n, rfl⟩ := Int.eq_ofNat_of_zero_le h.1
  obtain ⟨a, rfl⟩ := Int.eq_ofNat_of_zero_le hm.1
  have key : ∀ a : Nat, a < 256 → ∀ n : Nat, n < 9 → iI (a : Int) >>> (iI (n : Int) &&& 31) = iI ((a : Int) / p2 (n : Int)) := by decide +kernel
  exact key a (by omega) n (by omega)
theorem b_and1 {m : Int} (hm : 0 ≤ m ∧ m < 256) : iI m &&& iI 1 = iI (m % 2) := by
  obtain ⟨a, rfl⟩ := Int.eq_ofNat_of_zero_le hm.1
  have key : ∀ a : Nat, a < 256 → iI (a : Int) &&& iI 1 = iI ((a : Int) % 2) := by decide +kernel
  exact key a (by omega)
theorem b_or {m k : Int} (hm : 0 ≤ m ∧ m < 256) (h : 0 ≤ k ∧ k < 8) : iI m ||| iI (p2 k) = iI (sb m k) := by
  obtain ⟨n, rfl⟩ := Int.eq_ofNat_of_zero_le h.1
  obtain ⟨a, rfl⟩ := Int.eq_ofNat_of_zero_le hm.1
  have key : ∀ a : Nat, a < 256 → ∀ n : Nat, n < 8 → iI (a : Int) ||| iI (p2 (n : Int)) = iI (sb (a : Int) (n : Int)) := by decide +kernel
  exact key a (by omega) n (by omega)
theorem b_andp {m k : Int} (hm : 0 ≤ m ∧ m < 256) (h : 0 ≤ k ∧ k < 8) : iI m &&& iI (p2 k) = iI (bt m k * p2 k) := by
  obtain ⟨n, rfl⟩ := Int.eq_ofNat_of_zero_le h.1
  obtain ⟨a, rfl⟩ := Int.eq_ofNat_of_zero_le hm.1
  have key : ∀ a : Nat, a < 256 → ∀ n : Nat, n < 8 → iI (a : Int) &&& iI (p2 (n : Int)) = iI (bt (a : Int) (n : Int) * p2 (n : Int)) := by decide +kernel
  exact key a (by omega) n (by omega)
theorem b_xorm {m : Int} (hm : 0 ≤ m ∧ m < 256) : iI m ^^^ iI (-1) = iI (-1 - m) := by
  obtain ⟨a, rfl⟩ := Int.eq_ofNat_of_zero_le hm.1
  have key : ∀ a : Nat, a < 256 → iI (a : Int) ^^^ iI (-1) = iI (-1 - (a : Int)) := by decide +kernel
  exact key a (by omega)
theorem b_andn {m k : Int} (hm : 0 ≤ m ∧ m < 256) (h : 0 ≤ k ∧ k < 8) : iI m &&& iI (-1 - p2 k) = iI (ub m k) := by
  obtain ⟨n, rfl⟩ := Int.eq_ofNat_of_zero_le h.1
  obtain ⟨a, rfl⟩ := Int.eq_ofNat_of_zero_le hm.1
  have key : ∀ a : Nat, a < 256 → ∀ n : Nat, n < 8 → iI (a : Int) &&& iI (-1 - p2 (n : Int)) = iI (ub (a : Int) (n : Int)) := by decide +kernel
  exact key a (by omega) n (by omega)
theorem p2_k {k : Int} (h : 0 ≤ k ∧ k ≤ 8) : 1 ≤ p2 k ∧ p2 k ≤ 256 := by
  obtain ⟨n, rfl⟩ := Int.eq_ofNat_of_zero_le h.1
  have key : ∀ n : Nat, n < 9 → 1 ≤ p2 (n : Int) ∧ p2 (n : Int) ≤ 256 := by decide +kernel
  exact key n (by omega)
theorem p2_lt {k n : Int} (h : 0 ≤ k) (hk : k < n) (hn : n ≤ 8) : 2 * p2 k ≤ p2 n := by
  obtain ⟨a, rfl⟩ := Int.eq_ofNat_of_zero_le h
  obtain ⟨b, rfl⟩ := Int.eq_ofNat_of_zero_le (show 0 ≤ n by omega)
  have key : ∀ b : Nat, b < 9 → ∀ a : Nat, a < b → 2 * p2 (a : Int) ≤ p2 (b : Int) := by decide +kernel
  exact key b (by omega) a (by omega)
theorem bt_01 (m k : Int) : bt m k = 0 ∨ bt m k = 1 := by
  unfold bt
  omega
/-- a set of n, with one more of n, is a set of n -/
theorem sb_lt {m k n : Int} (hm : 0 ≤ m ∧ m < p2 n) (hk : 0 ≤ k ∧ k < n) (hn : n ≤ 7) : 0 ≤ sb m k ∧ sb m k < p2 n := by
  obtain ⟨a, rfl⟩ := Int.eq_ofNat_of_zero_le hm.1
  obtain ⟨b, rfl⟩ := Int.eq_ofNat_of_zero_le (show 0 ≤ n by omega)
  obtain ⟨d, rfl⟩ := Int.eq_ofNat_of_zero_le hk.1
  have key : ∀ b : Nat, b < 8 → ∀ d : Nat, d < b → ∀ a : Nat, a < 2 ^ b → sb (a : Int) (d : Int) < 2 ^ b ∧ (a : Int) ≤ sb (a : Int) (d : Int) := by decide +kernel
  have e : p2 (b : Int) = 2 ^ b := rfl
  have h2 : a < 2 ^ b := by
    have := hm.2
    rw [e] at this
    exact_mod_cast this
  have := key b (by omega) d (by omega) a h2
  rw [e]
  omega
theorem ub_lt {m k n : Int} (hm : 0 ≤ m ∧ m < p2 n) (hk : 0 ≤ k ∧ k < n) (hn : n ≤ 8) : 0 ≤ ub m k ∧ ub m k ≤ m := by
  have h1 := p2_k (k := k) (by omega)
  unfold ub
  by_cases h : bt m k = 1
  · rw [if_pos h]
    unfold bt at h
    have h3 : ¬ m < p2 k := fun h4 => by
      rw [Int.ediv_eq_zero_of_lt hm.1 h4] at h
      omega
    omega
  · rw [if_neg h]
    omega
theorem bt_sb {m k j : Int} (hm : 0 ≤ m ∧ m < 256) (hk : 0 ≤ k ∧ k < 8) (hj : 0 ≤ j ∧ j < 8) : bt (sb m k) j = if j = k then 1 else bt m j := by
  obtain ⟨a, rfl⟩ := Int.eq_ofNat_of_zero_le hm.1
  obtain ⟨b, rfl⟩ := Int.eq_ofNat_of_zero_le hj.1
  obtain ⟨d, rfl⟩ := Int.eq_ofNat_of_zero_le hk.1
  have key : ∀ a : Nat, a < 256 → ∀ d : Nat, d < 8 → ∀ b : Nat, b < 8 → bt (sb (a : Int) (d : Int)) (b : Int) = if (b : Int) = (d : Int) then 1 else bt (a : Int) (b : Int) := by decide +kernel
  exact key a (by omega) d (by omega) b (by omega)
theorem bt_ub {m k j : Int} (hm : 0 ≤ m ∧ m < 256) (hk : 0 ≤ k ∧ k < 8) (hj : 0 ≤ j ∧ j < 8) : bt (ub m k) j = if j = k then 0 else bt m j := by
  obtain ⟨a, rfl⟩ := Int.eq_ofNat_of_zero_le hm.1
  obtain ⟨b, rfl⟩ := Int.eq_ofNat_of_zero_le hj.1
  obtain ⟨d, rfl⟩ := Int.eq_ofNat_of_zero_le hk.1
  have key : ∀ a : Nat, a < 256 → ∀ d : Nat, d < 8 → ∀ b : Nat, b < 8 → bt (ub (a : Int) (d : Int)) (b : Int) = if (b : Int) = (d : Int) then 0 else bt (a : Int) (b : Int) := by decide +kernel
  exact key a (by omega) d (by omega) b (by omega)
/-- all of n -/
theorem bt_all {n j : Int} (hn : 0 ≤ n ∧ n ≤ 8) (hj : 0 ≤ j ∧ j < 8) : bt (p2 n - 1) j = if j < n then 1 else 0 := by
  obtain ⟨a, rfl⟩ := Int.eq_ofNat_of_zero_le hn.1
  obtain ⟨b, rfl⟩ := Int.eq_ofNat_of_zero_le hj.1
  have key : ∀ a : Nat, a < 9 → ∀ b : Nat, b < 8 → bt (p2 (a : Int) - 1) (b : Int) = if (b : Int) < (a : Int) then 1 else 0 := by decide +kernel
  exact key a (by omega) b (by omega)
theorem bt_0 {j : Int} : bt 0 j = 0 := by
  unfold bt
  rw [Int.zero_ediv]
  rfl
theorem bt_p2 {k j : Int} (hk : 0 ≤ k ∧ k < 8) (hj : 0 ≤ j ∧ j < 8) : bt (p2 k) j = if j = k then 1 else 0 := by
  obtain ⟨a, rfl⟩ := Int.eq_ofNat_of_zero_le hk.1
  obtain ⟨b, rfl⟩ := Int.eq_ofNat_of_zero_le hj.1
  have key : ∀ a : Nat, a < 8 → ∀ b : Nat, b < 8 → bt (p2 (a : Int)) (b : Int) = if (b : Int) = (a : Int) then 1 else 0 := by decide +kernel
  exact key a (by omega) b (by omega)
/-- sets are told by their bits -/
theorem bt_ext {a b : Int} (ha : 0 ≤ a ∧ a < 256) (hb : 0 ≤ b ∧ b < 256) (h : ∀ j : Int, 0 ≤ j → j < 8 → bt a j = bt b j) : a = b := by
  have h0 := h 0 (by omega) (by omega)
  have h1 := h 1 (by omega) (by omega)
  have h2 := h 2 (by omega) (by omega)
  have h3 := h 3 (by omega) (by omega)
  have h4 := h 4 (by omega) (by omega)
  have h5 := h 5 (by omega) (by omega)
  have h6 := h 6 (by omega) (by omega)
  have h7 := h 7 (by omega) (by omega)
  unfold bt at h0 h1 h2 h3 h4 h5 h6 h7
  rw [show p2 0 = 1 from rfl] at h0
  rw [show p2 1 = 2 from rfl] at h1
  rw [show p2 2 = 4 from rfl] at h2
  rw [show p2 3 = 8 from rfl] at h3
  rw [show p2 4 = 16 from rfl] at h4
  rw [show p2 5 = 32 from rfl] at h5
  rw [show p2 6 = 64 from rfl] at h6
  rw [show p2 7 = 128 from rfl] at h7
  omega
end
section
theorem dX4_init_0 : decode cX4_init 0 = .ok (.aload_n 0, 1) := by decide +kernel
theorem dX4_init_1 : decode cX4_init 1 = .ok (.invokespecial 3, 3) := by decide +kernel
theorem dX4_init_4 : decode cX4_init 4 = .ok (.aload_n 0, 1) := by decide +kernel
theorem dX4_init_5 : decode cX4_init 5 = .ok (.bipush 7, 2) := by decide +kernel
theorem dX4_init_7 : decode cX4_init 7 = .ok (.newarray .int, 2) := by decide +kernel
theorem dX4_init_9 : decode cX4_init 9 = .ok (.putfield 9, 3) := by decide +kernel
theorem dX4_init_12 : decode cX4_init 12 = .ok (.aload_n 0, 1) := by decide +kernel
theorem dX4_init_13 : decode cX4_init 13 = .ok (.bipush 7, 2) := by decide +kernel
theorem dX4_init_15 : decode cX4_init 15 = .ok (.bipush 7, 2) := by decide +kernel
theorem dX4_init_17 : decode cX4_init 17 = .ok (.multianewarray 15 2, 4) := by decide +kernel
theorem dX4_init_21 : decode cX4_init 21 = .ok (.putfield 17, 3) := by decide +kernel
theorem dX4_init_24 : decode cX4_init 24 = .ok (.return_, 1) := by decide +kernel
theorem dX4_copyFrom_0 : decode cX4_copyFrom 0 = .ok (.aload_n 0, 1) := by decide +kernel
theorem dX4_copyFrom_1 : decode cX4_copyFrom 1 = .ok (.aload_n 1, 1) := by decide +kernel
theorem dX4_copyFrom_2 : decode cX4_copyFrom 2 = .ok (.getfield 20, 3) := by decide +kernel
theorem dX4_copyFrom_5 : decode cX4_copyFrom 5 = .ok (.putfield 20, 3) := by decide +kernel
theorem dX4_copyFrom_8 : decode cX4_copyFrom 8 = .ok (.aload_n 0, 1) := by decide +kernel
theorem dX4_copyFrom_9 : decode cX4_copyFrom 9 = .ok (.aload_n 1, 1) := by decide +kernel
theorem dX4_copyFrom_10 : decode cX4_copyFrom 10 = .ok (.getfield 24, 3) := by decide +kernel
theorem dX4_copyFrom_13 : decode cX4_copyFrom 13 = .ok (.putfield 24, 3) := by decide +kernel
theorem dX4_copyFrom_16 : decode cX4_copyFrom 16 = .ok (.iconst 0, 1) := by decide +kernel
theorem dX4_copyFrom_17 : decode cX4_copyFrom 17 = .ok (.istore_n 2, 1) := by decide +kernel
theorem dX4_copyFrom_18 : decode cX4_copyFrom 18 = .ok (.iload_n 2, 1) := by decide +kernel
theorem dX4_copyFrom_19 : decode cX4_copyFrom 19 = .ok (.bipush 7, 2) := by decide +kernel
theorem dX4_copyFrom_21 : decode cX4_copyFrom 21 = .ok (.if_icmp .ge 51, 3) := by decide +kernel
theorem dX4_copyFrom_24 : decode cX4_copyFrom 24 = .ok (.aload_n 0, 1) := by decide +kernel
theorem dX4_copyFrom_25 : decode cX4_copyFrom 25 = .ok (.getfield 9, 3) := by decide +kernel
theorem dX4_copyFrom_28 : decode cX4_copyFrom 28 = .ok (.iload_n 2, 1) := by decide +kernel
theorem dX4_copyFrom_29 : decode cX4_copyFrom 29 = .ok (.aload_n 1, 1) := by decide +kernel
theorem dX4_copyFrom_30 : decode cX4_copyFrom 30 = .ok (.getfield 9, 3) := by decide +kernel
theorem dX4_copyFrom_33 : decode cX4_copyFrom 33 = .ok (.iload_n 2, 1) := by decide +kernel
theorem dX4_copyFrom_34 : decode cX4_copyFrom 34 = .ok (.iaload, 1) := by decide +kernel
theorem dX4_copyFrom_35 : decode cX4_copyFrom 35 = .ok (.iastore, 1) := by decide +kernel
theorem dX4_copyFrom_36 : decode cX4_copyFrom 36 = .ok (.iconst 0, 1) := by decide +kernel
theorem dX4_copyFrom_37 : decode cX4_copyFrom 37 = .ok (.istore_n 3, 1) := by decide +kernel
theorem dX4_copyFrom_38 : decode cX4_copyFrom 38 = .ok (.iload_n 3, 1) := by decide +kernel
theorem dX4_copyFrom_39 : decode cX4_copyFrom 39 = .ok (.bipush 7, 2) := by decide +kernel
theorem dX4_copyFrom_41 : decode cX4_copyFrom 41 = .ok (.if_icmp .ge 25, 3) := by decide +kernel
theorem dX4_copyFrom_44 : decode cX4_copyFrom 44 = .ok (.aload_n 0, 1) := by decide +kernel
theorem dX4_copyFrom_45 : decode cX4_copyFrom 45 = .ok (.getfield 17, 3) := by decide +kernel
theorem dX4_copyFrom_48 : decode cX4_copyFrom 48 = .ok (.iload_n 2, 1) := by decide +kernel
theorem dX4_copyFrom_49 : decode cX4_copyFrom 49 = .ok (.aaload, 1) := by decide +kernel
theorem dX4_copyFrom_50 : decode cX4_copyFrom 50 = .ok (.iload_n 3, 1) := by decide +kernel
theorem dX4_copyFrom_51 : decode cX4_copyFrom 51 = .ok (.aload_n 1, 1) := by decide +kernel
theorem dX4_copyFrom_52 : decode cX4_copyFrom 52 = .ok (.getfield 17, 3) := by decide +kernel
theorem dX4_copyFrom_55 : decode cX4_copyFrom 55 = .ok (.iload_n 2, 1) := by decide +kernel
theorem dX4_copyFrom_56 : decode cX4_copyFrom 56 = .ok (.aaload, 1) := by decide +kernel
theorem dX4_copyFrom_57 : decode cX4_copyFrom 57 = .ok (.iload_n 3, 1) := by decide +kernel
theorem dX4_copyFrom_58 : decode cX4_copyFrom 58 = .ok (.iaload, 1) := by decide +kernel
theorem dX4_copyFrom_59 : decode cX4_copyFrom 59 = .ok (.iastore, 1) := by decide +kernel
theorem dX4_copyFrom_60 : decode cX4_copyFrom 60 = .ok (.iinc 3 1, 3) := by decide +kernel
theorem dX4_copyFrom_63 : decode cX4_copyFrom 63 = .ok (.goto (-25), 3) := by decide +kernel
theorem dX4_copyFrom_66 : decode cX4_copyFrom 66 = .ok (.iinc 2 1, 3) := by decide +kernel
theorem dX4_copyFrom_69 : decode cX4_copyFrom 69 = .ok (.goto (-51), 3) := by decide +kernel
theorem dX4_copyFrom_72 : decode cX4_copyFrom 72 = .ok (.return_, 1) := by decide +kernel
theorem dX4_addWorker_0 : decode cX4_addWorker 0 = .ok (.aload_n 0, 1) := by decide +kernel
theorem dX4_addWorker_1 : decode cX4_addWorker 1 = .ok (.getfield 9, 3) := by decide +kernel
theorem dX4_addWorker_4 : decode cX4_addWorker 4 = .ok (.aload_n 0, 1) := by decide +kernel
theorem dX4_addWorker_5 : decode cX4_addWorker 5 = .ok (.getfield 20, 3) := by decide +kernel
theorem dX4_addWorker_8 : decode cX4_addWorker 8 = .ok (.iload_n 1, 1) := by decide +kernel
theorem dX4_addWorker_9 : decode cX4_addWorker 9 = .ok (.iastore, 1) := by decide +kernel
theorem dX4_addWorker_10 : decode cX4_addWorker 10 = .ok (.iconst 0, 1) := by decide +kernel
theorem dX4_addWorker_11 : decode cX4_addWorker 11 = .ok (.istore_n 2, 1) := by decide +kernel
theorem dX4_addWorker_12 : decode cX4_addWorker 12 = .ok (.iload_n 2, 1) := by decide +kernel
theorem dX4_addWorker_13 : decode cX4_addWorker 13 = .ok (.aload_n 0, 1) := by decide +kernel
theorem dX4_addWorker_14 : decode cX4_addWorker 14 = .ok (.getfield 24, 3) := by decide +kernel
theorem dX4_addWorker_17 : decode cX4_addWorker 17 = .ok (.if_icmp .ge 21, 3) := by decide +kernel
theorem dX4_addWorker_20 : decode cX4_addWorker 20 = .ok (.aload_n 0, 1) := by decide +kernel
theorem dX4_addWorker_21 : decode cX4_addWorker 21 = .ok (.getfield 17, 3) := by decide +kernel
theorem dX4_addWorker_24 : decode cX4_addWorker 24 = .ok (.aload_n 0, 1) := by decide +kernel
theorem dX4_addWorker_25 : decode cX4_addWorker 25 = .ok (.getfield 20, 3) := by decide +kernel
theorem dX4_addWorker_28 : decode cX4_addWorker 28 = .ok (.aaload, 1) := by decide +kernel
theorem dX4_addWorker_29 : decode cX4_addWorker 29 = .ok (.iload_n 2, 1) := by decide +kernel
theorem dX4_addWorker_30 : decode cX4_addWorker 30 = .ok (.iconst (-1), 1) := by decide +kernel
theorem dX4_addWorker_31 : decode cX4_addWorker 31 = .ok (.iastore, 1) := by decide +kernel
theorem dX4_addWorker_32 : decode cX4_addWorker 32 = .ok (.iinc 2 1, 3) := by decide +kernel
theorem dX4_addWorker_35 : decode cX4_addWorker 35 = .ok (.goto (-23), 3) := by decide +kernel
theorem dX4_addWorker_38 : decode cX4_addWorker 38 = .ok (.aload_n 0, 1) := by decide +kernel
theorem dX4_addWorker_39 : decode cX4_addWorker 39 = .ok (.dup, 1) := by decide +kernel
theorem dX4_addWorker_40 : decode cX4_addWorker 40 = .ok (.getfield 20, 3) := by decide +kernel
theorem dX4_addWorker_43 : decode cX4_addWorker 43 = .ok (.iconst 1, 1) := by decide +kernel
theorem dX4_addWorker_44 : decode cX4_addWorker 44 = .ok (.iadd, 1) := by decide +kernel
theorem dX4_addWorker_45 : decode cX4_addWorker 45 = .ok (.putfield 20, 3) := by decide +kernel
theorem dX4_addWorker_48 : decode cX4_addWorker 48 = .ok (.return_, 1) := by decide +kernel
theorem dX4_addTask_0 : decode cX4_addTask 0 = .ok (.iconst 0, 1) := by decide +kernel
theorem dX4_addTask_1 : decode cX4_addTask 1 = .ok (.istore_n 1, 1) := by decide +kernel
theorem dX4_addTask_2 : decode cX4_addTask 2 = .ok (.iload_n 1, 1) := by decide +kernel
theorem dX4_addTask_3 : decode cX4_addTask 3 = .ok (.aload_n 0, 1) := by decide +kernel
theorem dX4_addTask_4 : decode cX4_addTask 4 = .ok (.getfield 20, 3) := by decide +kernel
theorem dX4_addTask_7 : decode cX4_addTask 7 = .ok (.if_icmp .ge 21, 3) := by decide +kernel
theorem dX4_addTask_10 : decode cX4_addTask 10 = .ok (.aload_n 0, 1) := by decide +kernel
theorem dX4_addTask_11 : decode cX4_addTask 11 = .ok (.getfield 17, 3) := by decide +kernel
theorem dX4_addTask_14 : decode cX4_addTask 14 = .ok (.iload_n 1, 1) := by decide +kernel
theorem dX4_addTask_15 : decode cX4_addTask 15 = .ok (.aaload, 1) := by decide +kernel
theorem dX4_addTask_16 : decode cX4_addTask 16 = .ok (.aload_n 0, 1) := by decide +kernel
theorem dX4_addTask_17 : decode cX4_addTask 17 = .ok (.getfield 24, 3) := by decide +kernel
theorem dX4_addTask_20 : decode cX4_addTask 20 = .ok (.iconst (-1), 1) := by decide +kernel
theorem dX4_addTask_21 : decode cX4_addTask 21 = .ok (.iastore, 1) := by decide +kernel
theorem dX4_addTask_22 : decode cX4_addTask 22 = .ok (.iinc 1 1, 3) := by decide +kernel
theorem dX4_addTask_25 : decode cX4_addTask 25 = .ok (.goto (-23), 3) := by decide +kernel
theorem dX4_addTask_28 : decode cX4_addTask 28 = .ok (.aload_n 0, 1) := by decide +kernel
theorem dX4_addTask_29 : decode cX4_addTask 29 = .ok (.dup, 1) := by decide +kernel
theorem dX4_addTask_30 : decode cX4_addTask 30 = .ok (.getfield 24, 3) := by decide +kernel
theorem dX4_addTask_33 : decode cX4_addTask 33 = .ok (.iconst 1, 1) := by decide +kernel
theorem dX4_addTask_34 : decode cX4_addTask 34 = .ok (.iadd, 1) := by decide +kernel
theorem dX4_addTask_35 : decode cX4_addTask 35 = .ok (.putfield 24, 3) := by decide +kernel
theorem dX4_addTask_38 : decode cX4_addTask 38 = .ok (.return_, 1) := by decide +kernel
theorem dX4_removeWorker_0 : decode cX4_removeWorker 0 = .ok (.aload_n 0, 1) := by decide +kernel
theorem dX4_removeWorker_1 : decode cX4_removeWorker 1 = .ok (.dup, 1) := by decide +kernel
theorem dX4_removeWorker_2 : decode cX4_removeWorker 2 = .ok (.getfield 20, 3) := by decide +kernel
theorem dX4_removeWorker_5 : decode cX4_removeWorker 5 = .ok (.iconst 1, 1) := by decide +kernel
theorem dX4_removeWorker_6 : decode cX4_removeWorker 6 = .ok (.isub, 1) := by decide +kernel
theorem dX4_removeWorker_7 : decode cX4_removeWorker 7 = .ok (.putfield 20, 3) := by decide +kernel
theorem dX4_removeWorker_10 : decode cX4_removeWorker 10 = .ok (.iload_n 1, 1) := by decide +kernel
theorem dX4_removeWorker_11 : decode cX4_removeWorker 11 = .ok (.istore_n 2, 1) := by decide +kernel
theorem dX4_removeWorker_12 : decode cX4_removeWorker 12 = .ok (.iload_n 2, 1) := by decide +kernel
theorem dX4_removeWorker_13 : decode cX4_removeWorker 13 = .ok (.aload_n 0, 1) := by decide +kernel
theorem dX4_removeWorker_14 : decode cX4_removeWorker 14 = .ok (.getfield 20, 3) := by decide +kernel
theorem dX4_removeWorker_17 : decode cX4_removeWorker 17 = .ok (.if_icmp .ge 57, 3) := by decide +kernel
theorem dX4_removeWorker_20 : decode cX4_removeWorker 20 = .ok (.aload_n 0, 1) := by decide +kernel
theorem dX4_removeWorker_21 : decode cX4_removeWorker 21 = .ok (.getfield 9, 3) := by decide +kernel
theorem dX4_removeWorker_24 : decode cX4_removeWorker 24 = .ok (.iload_n 2, 1) := by decide +kernel
theorem dX4_removeWorker_25 : decode cX4_removeWorker 25 = .ok (.aload_n 0, 1) := by decide +kernel
theorem dX4_removeWorker_26 : decode cX4_removeWorker 26 = .ok (.getfield 9, 3) := by decide +kernel
theorem dX4_removeWorker_29 : decode cX4_removeWorker 29 = .ok (.iload_n 2, 1) := by decide +kernel
theorem dX4_removeWorker_30 : decode cX4_removeWorker 30 = .ok (.iconst 1, 1) := by decide +kernel
theorem dX4_removeWorker_31 : decode cX4_removeWorker 31 = .ok (.iadd, 1) := by decide +kernel
theorem dX4_removeWorker_32 : decode cX4_removeWorker 32 = .ok (.iaload, 1) := by decide +kernel
theorem dX4_removeWorker_33 : decode cX4_removeWorker 33 = .ok (.iastore, 1) := by decide +kernel
theorem dX4_removeWorker_34 : decode cX4_removeWorker 34 = .ok (.iconst 0, 1) := by decide +kernel
theorem dX4_removeWorker_35 : decode cX4_removeWorker 35 = .ok (.istore_n 3, 1) := by decide +kernel
theorem dX4_removeWorker_36 : decode cX4_removeWorker 36 = .ok (.iload_n 3, 1) := by decide +kernel
theorem dX4_removeWorker_37 : decode cX4_removeWorker 37 = .ok (.aload_n 0, 1) := by decide +kernel
theorem dX4_removeWorker_38 : decode cX4_removeWorker 38 = .ok (.getfield 24, 3) := by decide +kernel
theorem dX4_removeWorker_41 : decode cX4_removeWorker 41 = .ok (.if_icmp .ge 27, 3) := by decide +kernel
theorem dX4_removeWorker_44 : decode cX4_removeWorker 44 = .ok (.aload_n 0, 1) := by decide +kernel
theorem dX4_removeWorker_45 : decode cX4_removeWorker 45 = .ok (.getfield 17, 3) := by decide +kernel
theorem dX4_removeWorker_48 : decode cX4_removeWorker 48 = .ok (.iload_n 2, 1) := by decide +kernel
theorem dX4_removeWorker_49 : decode cX4_removeWorker 49 = .ok (.aaload, 1) := by decide +kernel
theorem dX4_removeWorker_50 : decode cX4_removeWorker 50 = .ok (.iload_n 3, 1) := by decide +kernel
theorem dX4_removeWorker_51 : decode cX4_removeWorker 51 = .ok (.aload_n 0, 1) := by decide +kernel
theorem dX4_removeWorker_52 : decode cX4_removeWorker 52 = .ok (.getfield 17, 3) := by decide +kernel
theorem dX4_removeWorker_55 : decode cX4_removeWorker 55 = .ok (.iload_n 2, 1) := by decide +kernel
theorem dX4_removeWorker_56 : decode cX4_removeWorker 56 = .ok (.iconst 1, 1) := by decide +kernel
theorem dX4_removeWorker_57 : decode cX4_removeWorker 57 = .ok (.iadd, 1) := by decide +kernel
theorem dX4_removeWorker_58 : decode cX4_removeWorker 58 = .ok (.aaload, 1) := by decide +kernel
theorem dX4_removeWorker_59 : decode cX4_removeWorker 59 = .ok (.iload_n 3, 1) := by decide +kernel
theorem dX4_removeWorker_60 : decode cX4_removeWorker 60 = .ok (.iaload, 1) := by decide +kernel
theorem dX4_removeWorker_61 : decode cX4_removeWorker 61 = .ok (.iastore, 1) := by decide +kernel
theorem dX4_removeWorker_62 : decode cX4_removeWorker 62 = .ok (.iinc 3 1, 3) := by decide +kernel
theorem dX4_removeWorker_65 : decode cX4_removeWorker 65 = .ok (.goto (-29), 3) := by decide +kernel
theorem dX4_removeWorker_68 : decode cX4_removeWorker 68 = .ok (.iinc 2 1, 3) := by decide +kernel
theorem dX4_removeWorker_71 : decode cX4_removeWorker 71 = .ok (.goto (-59), 3) := by decide +kernel
theorem dX4_removeWorker_74 : decode cX4_removeWorker 74 = .ok (.return_, 1) := by decide +kernel
theorem dX4_removeTask_0 : decode cX4_removeTask 0 = .ok (.aload_n 0, 1) := by decide +kernel
theorem dX4_removeTask_1 : decode cX4_removeTask 1 = .ok (.dup, 1) := by decide +kernel
theorem dX4_removeTask_2 : decode cX4_removeTask 2 = .ok (.getfield 24, 3) := by decide +kernel
theorem dX4_removeTask_5 : decode cX4_removeTask 5 = .ok (.iconst 1, 1) := by decide +kernel
theorem dX4_removeTask_6 : decode cX4_removeTask 6 = .ok (.isub, 1) := by decide +kernel
theorem dX4_removeTask_7 : decode cX4_removeTask 7 = .ok (.putfield 24, 3) := by decide +kernel
theorem dX4_removeTask_10 : decode cX4_removeTask 10 = .ok (.iconst 0, 1) := by decide +kernel
theorem dX4_removeTask_11 : decode cX4_removeTask 11 = .ok (.istore_n 2, 1) := by decide +kernel
theorem dX4_removeTask_12 : decode cX4_removeTask 12 = .ok (.iload_n 2, 1) := by decide +kernel
theorem dX4_removeTask_13 : decode cX4_removeTask 13 = .ok (.aload_n 0, 1) := by decide +kernel
theorem dX4_removeTask_14 : decode cX4_removeTask 14 = .ok (.getfield 20, 3) := by decide +kernel
theorem dX4_removeTask_17 : decode cX4_removeTask 17 = .ok (.if_icmp .ge 43, 3) := by decide +kernel
theorem dX4_removeTask_20 : decode cX4_removeTask 20 = .ok (.iload_n 1, 1) := by decide +kernel
theorem dX4_removeTask_21 : decode cX4_removeTask 21 = .ok (.istore_n 3, 1) := by decide +kernel
theorem dX4_removeTask_22 : decode cX4_removeTask 22 = .ok (.iload_n 3, 1) := by decide +kernel
theorem dX4_removeTask_23 : decode cX4_removeTask 23 = .ok (.aload_n 0, 1) := by decide +kernel
theorem dX4_removeTask_24 : decode cX4_removeTask 24 = .ok (.getfield 24, 3) := by decide +kernel
theorem dX4_removeTask_27 : decode cX4_removeTask 27 = .ok (.if_icmp .ge 27, 3) := by decide +kernel
theorem dX4_removeTask_30 : decode cX4_removeTask 30 = .ok (.aload_n 0, 1) := by decide +kernel
theorem dX4_removeTask_31 : decode cX4_removeTask 31 = .ok (.getfield 17, 3) := by decide +kernel
theorem dX4_removeTask_34 : decode cX4_removeTask 34 = .ok (.iload_n 2, 1) := by decide +kernel
theorem dX4_removeTask_35 : decode cX4_removeTask 35 = .ok (.aaload, 1) := by decide +kernel
theorem dX4_removeTask_36 : decode cX4_removeTask 36 = .ok (.iload_n 3, 1) := by decide +kernel
theorem dX4_removeTask_37 : decode cX4_removeTask 37 = .ok (.aload_n 0, 1) := by decide +kernel
theorem dX4_removeTask_38 : decode cX4_removeTask 38 = .ok (.getfield 17, 3) := by decide +kernel
theorem dX4_removeTask_41 : decode cX4_removeTask 41 = .ok (.iload_n 2, 1) := by decide +kernel
theorem dX4_removeTask_42 : decode cX4_removeTask 42 = .ok (.aaload, 1) := by decide +kernel
theorem dX4_removeTask_43 : decode cX4_removeTask 43 = .ok (.iload_n 3, 1) := by decide +kernel
theorem dX4_removeTask_44 : decode cX4_removeTask 44 = .ok (.iconst 1, 1) := by decide +kernel
theorem dX4_removeTask_45 : decode cX4_removeTask 45 = .ok (.iadd, 1) := by decide +kernel
theorem dX4_removeTask_46 : decode cX4_removeTask 46 = .ok (.iaload, 1) := by decide +kernel
theorem dX4_removeTask_47 : decode cX4_removeTask 47 = .ok (.iastore, 1) := by decide +kernel
theorem dX4_removeTask_48 : decode cX4_removeTask 48 = .ok (.iinc 3 1, 3) := by decide +kernel
theorem dX4_removeTask_51 : decode cX4_removeTask 51 = .ok (.goto (-29), 3) := by decide +kernel
theorem dX4_removeTask_54 : decode cX4_removeTask 54 = .ok (.iinc 2 1, 3) := by decide +kernel
theorem dX4_removeTask_57 : decode cX4_removeTask 57 = .ok (.goto (-45), 3) := by decide +kernel
theorem dX4_removeTask_60 : decode cX4_removeTask 60 = .ok (.return_, 1) := by decide +kernel
theorem dX4_isBarred_0 : decode cX4_isBarred 0 = .ok (.iload_n 2, 1) := by decide +kernel
theorem dX4_isBarred_1 : decode cX4_isBarred 1 = .ok (.iconst (-1), 1) := by decide +kernel
theorem dX4_isBarred_2 : decode cX4_isBarred 2 = .ok (.if_icmp .eq 19, 3) := by decide +kernel
theorem dX4_isBarred_5 : decode cX4_isBarred 5 = .ok (.aload_n 0, 1) := by decide +kernel
theorem dX4_isBarred_6 : decode cX4_isBarred 6 = .ok (.getfield 17, 3) := by decide +kernel
theorem dX4_isBarred_9 : decode cX4_isBarred 9 = .ok (.iload_n 1, 1) := by decide +kernel
theorem dX4_isBarred_10 : decode cX4_isBarred 10 = .ok (.aaload, 1) := by decide +kernel
theorem dX4_isBarred_11 : decode cX4_isBarred 11 = .ok (.iload_n 2, 1) := by decide +kernel
theorem dX4_isBarred_12 : decode cX4_isBarred 12 = .ok (.iaload, 1) := by decide +kernel
theorem dX4_isBarred_13 : decode cX4_isBarred 13 = .ok (.iconst (-1), 1) := by decide +kernel
theorem dX4_isBarred_14 : decode cX4_isBarred 14 = .ok (.if_icmp .ne 7, 3) := by decide +kernel
theorem dX4_isBarred_17 : decode cX4_isBarred 17 = .ok (.iconst 1, 1) := by decide +kernel
theorem dX4_isBarred_18 : decode cX4_isBarred 18 = .ok (.goto 4, 3) := by decide +kernel
theorem dX4_isBarred_21 : decode cX4_isBarred 21 = .ok (.iconst 0, 1) := by decide +kernel
theorem dX4_isBarred_22 : decode cX4_isBarred 22 = .ok (.ireturn, 1) := by decide +kernel
theorem dX4_costWith_0 : decode cX4_costWith 0 = .ok (.iload_n 2, 1) := by decide +kernel
theorem dX4_costWith_1 : decode cX4_costWith 1 = .ok (.iconst (-1), 1) := by decide +kernel
theorem dX4_costWith_2 : decode cX4_costWith 2 = .ok (.if_icmp .ne 12, 3) := by decide +kernel
theorem dX4_costWith_5 : decode cX4_costWith 5 = .ok (.aload_n 0, 1) := by decide +kernel
theorem dX4_costWith_6 : decode cX4_costWith 6 = .ok (.getfield 9, 3) := by decide +kernel
theorem dX4_costWith_9 : decode cX4_costWith 9 = .ok (.iload_n 1, 1) := by decide +kernel
theorem dX4_costWith_10 : decode cX4_costWith 10 = .ok (.iaload, 1) := by decide +kernel
theorem dX4_costWith_11 : decode cX4_costWith 11 = .ok (.goto 11, 3) := by decide +kernel
theorem dX4_costWith_14 : decode cX4_costWith 14 = .ok (.aload_n 0, 1) := by decide +kernel
theorem dX4_costWith_15 : decode cX4_costWith 15 = .ok (.getfield 17, 3) := by decide +kernel
theorem dX4_costWith_18 : decode cX4_costWith 18 = .ok (.iload_n 1, 1) := by decide +kernel
theorem dX4_costWith_19 : decode cX4_costWith 19 = .ok (.aaload, 1) := by decide +kernel
theorem dX4_costWith_20 : decode cX4_costWith 20 = .ok (.iload_n 2, 1) := by decide +kernel
theorem dX4_costWith_21 : decode cX4_costWith 21 = .ok (.iaload, 1) := by decide +kernel
theorem dX4_costWith_22 : decode cX4_costWith 22 = .ok (.ireturn, 1) := by decide +kernel
theorem dX4_greatestCost_0 : decode cX4_greatestCost 0 = .ok (.aload_n 0, 1) := by decide +kernel
theorem dX4_greatestCost_1 : decode cX4_greatestCost 1 = .ok (.getfield 9, 3) := by decide +kernel
theorem dX4_greatestCost_4 : decode cX4_greatestCost 4 = .ok (.iload_n 1, 1) := by decide +kernel
theorem dX4_greatestCost_5 : decode cX4_greatestCost 5 = .ok (.iaload, 1) := by decide +kernel
theorem dX4_greatestCost_6 : decode cX4_greatestCost 6 = .ok (.istore_n 2, 1) := by decide +kernel
theorem dX4_greatestCost_7 : decode cX4_greatestCost 7 = .ok (.iconst 0, 1) := by decide +kernel
theorem dX4_greatestCost_8 : decode cX4_greatestCost 8 = .ok (.istore_n 3, 1) := by decide +kernel
theorem dX4_greatestCost_9 : decode cX4_greatestCost 9 = .ok (.iload_n 3, 1) := by decide +kernel
theorem dX4_greatestCost_10 : decode cX4_greatestCost 10 = .ok (.aload_n 0, 1) := by decide +kernel
theorem dX4_greatestCost_11 : decode cX4_greatestCost 11 = .ok (.getfield 24, 3) := by decide +kernel
theorem dX4_greatestCost_14 : decode cX4_greatestCost 14 = .ok (.if_icmp .ge 22, 3) := by decide +kernel
theorem dX4_greatestCost_17 : decode cX4_greatestCost 17 = .ok (.iload_n 2, 1) := by decide +kernel
theorem dX4_greatestCost_18 : decode cX4_greatestCost 18 = .ok (.aload_n 0, 1) := by decide +kernel
theorem dX4_greatestCost_19 : decode cX4_greatestCost 19 = .ok (.getfield 17, 3) := by decide +kernel
theorem dX4_greatestCost_22 : decode cX4_greatestCost 22 = .ok (.iload_n 1, 1) := by decide +kernel
theorem dX4_greatestCost_23 : decode cX4_greatestCost 23 = .ok (.aaload, 1) := by decide +kernel
theorem dX4_greatestCost_24 : decode cX4_greatestCost 24 = .ok (.iload_n 3, 1) := by decide +kernel
theorem dX4_greatestCost_25 : decode cX4_greatestCost 25 = .ok (.iaload, 1) := by decide +kernel
theorem dX4_greatestCost_26 : decode cX4_greatestCost 26 = .ok (.invokestatic 27, 3) := by decide +kernel
theorem dX4_greatestCost_29 : decode cX4_greatestCost 29 = .ok (.istore_n 2, 1) := by decide +kernel
theorem dX4_greatestCost_30 : decode cX4_greatestCost 30 = .ok (.iinc 3 1, 3) := by decide +kernel
theorem dX4_greatestCost_33 : decode cX4_greatestCost 33 = .ok (.goto (-24), 3) := by decide +kernel
theorem dX4_greatestCost_36 : decode cX4_greatestCost 36 = .ok (.iload_n 2, 1) := by decide +kernel
theorem dX4_greatestCost_37 : decode cX4_greatestCost 37 = .ok (.ireturn, 1) := by decide +kernel
set_option maxRecDepth 20000 in
theorem ggX4_multiplyCosts_X4_isBarred : GoodIn wsX4_multiplyCosts wsX4_isBarred := goodIn_r _ [8, 3, 9, 10, 11, 12] (by decide +kernel) (by decide +kernel)
set_option maxRecDepth 20000 in
theorem gX4_multiplyCosts_X4_isBarred : GoodIn wsX4_multiplyCosts (wsV RX4 33 RX4 yX4_isBarred wsX4_isBarred) := goodIn_app (goodIn_of _ (by decide +kernel)) ggX4_multiplyCosts_X4_isBarred
theorem dX4_multiplyCosts_0 : decode cX4_multiplyCosts 0 = .ok (.aload_n 0, 1) := by decide +kernel
theorem dX4_multiplyCosts_1 : decode cX4_multiplyCosts 1 = .ok (.getfield 9, 3) := by decide +kernel
theorem dX4_multiplyCosts_4 : decode cX4_multiplyCosts 4 = .ok (.iload_n 1, 1) := by decide +kernel
theorem dX4_multiplyCosts_5 : decode cX4_multiplyCosts 5 = .ok (.dup2, 1) := by decide +kernel
theorem dX4_multiplyCosts_6 : decode cX4_multiplyCosts 6 = .ok (.iaload, 1) := by decide +kernel
theorem dX4_multiplyCosts_7 : decode cX4_multiplyCosts 7 = .ok (.iload_n 2, 1) := by decide +kernel
theorem dX4_multiplyCosts_8 : decode cX4_multiplyCosts 8 = .ok (.imul, 1) := by decide +kernel
theorem dX4_multiplyCosts_9 : decode cX4_multiplyCosts 9 = .ok (.iastore, 1) := by decide +kernel
theorem dX4_multiplyCosts_10 : decode cX4_multiplyCosts 10 = .ok (.iconst 0, 1) := by decide +kernel
theorem dX4_multiplyCosts_11 : decode cX4_multiplyCosts 11 = .ok (.istore_n 3, 1) := by decide +kernel
theorem dX4_multiplyCosts_12 : decode cX4_multiplyCosts 12 = .ok (.iload_n 3, 1) := by decide +kernel
theorem dX4_multiplyCosts_13 : decode cX4_multiplyCosts 13 = .ok (.aload_n 0, 1) := by decide +kernel
theorem dX4_multiplyCosts_14 : decode cX4_multiplyCosts 14 = .ok (.getfield 24, 3) := by decide +kernel
theorem dX4_multiplyCosts_17 : decode cX4_multiplyCosts 17 = .ok (.if_icmp .ge 30, 3) := by decide +kernel
theorem dX4_multiplyCosts_20 : decode cX4_multiplyCosts 20 = .ok (.aload_n 0, 1) := by decide +kernel
theorem dX4_multiplyCosts_21 : decode cX4_multiplyCosts 21 = .ok (.iload_n 1, 1) := by decide +kernel
theorem dX4_multiplyCosts_22 : decode cX4_multiplyCosts 22 = .ok (.iload_n 3, 1) := by decide +kernel
theorem dX4_multiplyCosts_23 : decode cX4_multiplyCosts 23 = .ok (.invokevirtual 33, 3) := by decide +kernel
theorem dX4_multiplyCosts_26 : decode cX4_multiplyCosts 26 = .ok (.ifCond .ne 15, 3) := by decide +kernel
theorem dX4_multiplyCosts_29 : decode cX4_multiplyCosts 29 = .ok (.aload_n 0, 1) := by decide +kernel
theorem dX4_multiplyCosts_30 : decode cX4_multiplyCosts 30 = .ok (.getfield 17, 3) := by decide +kernel
theorem dX4_multiplyCosts_33 : decode cX4_multiplyCosts 33 = .ok (.iload_n 1, 1) := by decide +kernel
theorem dX4_multiplyCosts_34 : decode cX4_multiplyCosts 34 = .ok (.aaload, 1) := by decide +kernel
theorem dX4_multiplyCosts_35 : decode cX4_multiplyCosts 35 = .ok (.iload_n 3, 1) := by decide +kernel
theorem dX4_multiplyCosts_36 : decode cX4_multiplyCosts 36 = .ok (.dup2, 1) := by decide +kernel
theorem dX4_multiplyCosts_37 : decode cX4_multiplyCosts 37 = .ok (.iaload, 1) := by decide +kernel
theorem dX4_multiplyCosts_38 : decode cX4_multiplyCosts 38 = .ok (.iload_n 2, 1) := by decide +kernel
theorem dX4_multiplyCosts_39 : decode cX4_multiplyCosts 39 = .ok (.imul, 1) := by decide +kernel
theorem dX4_multiplyCosts_40 : decode cX4_multiplyCosts 40 = .ok (.iastore, 1) := by decide +kernel
theorem dX4_multiplyCosts_41 : decode cX4_multiplyCosts 41 = .ok (.iinc 3 1, 3) := by decide +kernel
theorem dX4_multiplyCosts_44 : decode cX4_multiplyCosts 44 = .ok (.goto (-32), 3) := by decide +kernel
theorem dX4_multiplyCosts_47 : decode cX4_multiplyCosts 47 = .ok (.return_, 1) := by decide +kernel
set_option maxRecDepth 20000 in
theorem ggX4_openPairs_X4_isBarred : GoodIn wsX4_openPairs wsX4_isBarred := goodIn_r _ [7, 8, 9, 10, 11, 12] (by decide +kernel) (by decide +kernel)
set_option maxRecDepth 20000 in
theorem gX4_openPairs_X4_isBarred : GoodIn wsX4_openPairs (wsV RX4 33 RX4 yX4_isBarred wsX4_isBarred) := goodIn_app (goodIn_of _ (by decide +kernel)) ggX4_openPairs_X4_isBarred
theorem dX4_openPairs_0 : decode cX4_openPairs 0 = .ok (.iconst 0, 1) := by decide +kernel
theorem dX4_openPairs_1 : decode cX4_openPairs 1 = .ok (.istore_n 1, 1) := by decide +kernel
theorem dX4_openPairs_2 : decode cX4_openPairs 2 = .ok (.iconst 0, 1) := by decide +kernel
theorem dX4_openPairs_3 : decode cX4_openPairs 3 = .ok (.istore_n 2, 1) := by decide +kernel
theorem dX4_openPairs_4 : decode cX4_openPairs 4 = .ok (.iload_n 2, 1) := by decide +kernel
theorem dX4_openPairs_5 : decode cX4_openPairs 5 = .ok (.aload_n 0, 1) := by decide +kernel
theorem dX4_openPairs_6 : decode cX4_openPairs 6 = .ok (.getfield 20, 3) := by decide +kernel
theorem dX4_openPairs_9 : decode cX4_openPairs 9 = .ok (.if_icmp .ge 37, 3) := by decide +kernel
theorem dX4_openPairs_12 : decode cX4_openPairs 12 = .ok (.iconst 0, 1) := by decide +kernel
theorem dX4_openPairs_13 : decode cX4_openPairs 13 = .ok (.istore_n 3, 1) := by decide +kernel
theorem dX4_openPairs_14 : decode cX4_openPairs 14 = .ok (.iload_n 3, 1) := by decide +kernel
theorem dX4_openPairs_15 : decode cX4_openPairs 15 = .ok (.aload_n 0, 1) := by decide +kernel
theorem dX4_openPairs_16 : decode cX4_openPairs 16 = .ok (.getfield 24, 3) := by decide +kernel
theorem dX4_openPairs_19 : decode cX4_openPairs 19 = .ok (.if_icmp .ge 21, 3) := by decide +kernel
theorem dX4_openPairs_22 : decode cX4_openPairs 22 = .ok (.aload_n 0, 1) := by decide +kernel
theorem dX4_openPairs_23 : decode cX4_openPairs 23 = .ok (.iload_n 2, 1) := by decide +kernel
theorem dX4_openPairs_24 : decode cX4_openPairs 24 = .ok (.iload_n 3, 1) := by decide +kernel
theorem dX4_openPairs_25 : decode cX4_openPairs 25 = .ok (.invokevirtual 33, 3) := by decide +kernel
theorem dX4_openPairs_28 : decode cX4_openPairs 28 = .ok (.ifCond .ne 6, 3) := by decide +kernel
theorem dX4_openPairs_31 : decode cX4_openPairs 31 = .ok (.iinc 1 1, 3) := by decide +kernel
theorem dX4_openPairs_34 : decode cX4_openPairs 34 = .ok (.iinc 3 1, 3) := by decide +kernel
theorem dX4_openPairs_37 : decode cX4_openPairs 37 = .ok (.goto (-23), 3) := by decide +kernel
theorem dX4_openPairs_40 : decode cX4_openPairs 40 = .ok (.iinc 2 1, 3) := by decide +kernel
theorem dX4_openPairs_43 : decode cX4_openPairs 43 = .ok (.goto (-39), 3) := by decide +kernel
theorem dX4_openPairs_46 : decode cX4_openPairs 46 = .ok (.iload_n 1, 1) := by decide +kernel
theorem dX4_openPairs_47 : decode cX4_openPairs 47 = .ok (.ireturn, 1) := by decide +kernel
theorem dX4_allWorkers_0 : decode cX4_allWorkers 0 = .ok (.iconst 1, 1) := by decide +kernel
theorem dX4_allWorkers_1 : decode cX4_allWorkers 1 = .ok (.aload_n 0, 1) := by decide +kernel
theorem dX4_allWorkers_2 : decode cX4_allWorkers 2 = .ok (.getfield 20, 3) := by decide +kernel
theorem dX4_allWorkers_5 : decode cX4_allWorkers 5 = .ok (.ishl, 1) := by decide +kernel
theorem dX4_allWorkers_6 : decode cX4_allWorkers 6 = .ok (.iconst 1, 1) := by decide +kernel
theorem dX4_allWorkers_7 : decode cX4_allWorkers 7 = .ok (.isub, 1) := by decide +kernel
theorem dX4_allWorkers_8 : decode cX4_allWorkers 8 = .ok (.ireturn, 1) := by decide +kernel
set_option maxRecDepth 20000 in
theorem ggX4_allWorkersBut_X4_allWorkers : GoodIn wsX4_allWorkersBut wsX4_allWorkers := goodIn_r _ [5, 6, 7, 8, 9, 10] (by decide +kernel) (by decide +kernel)
set_option maxRecDepth 20000 in
theorem gX4_allWorkersBut_X4_allWorkers : GoodIn wsX4_allWorkersBut (wsV RX4 37 RX4 yX4_allWorkers wsX4_allWorkers) := goodIn_app (goodIn_of _ (by decide +kernel)) ggX4_allWorkersBut_X4_allWorkers
theorem dX4_allWorkersBut_0 : decode cX4_allWorkersBut 0 = .ok (.aload_n 0, 1) := by decide +kernel
theorem dX4_allWorkersBut_1 : decode cX4_allWorkersBut 1 = .ok (.invokevirtual 37, 3) := by decide +kernel
theorem dX4_allWorkersBut_4 : decode cX4_allWorkersBut 4 = .ok (.iconst 1, 1) := by decide +kernel
theorem dX4_allWorkersBut_5 : decode cX4_allWorkersBut 5 = .ok (.iload_n 1, 1) := by decide +kernel
theorem dX4_allWorkersBut_6 : decode cX4_allWorkersBut 6 = .ok (.ishl, 1) := by decide +kernel
theorem dX4_allWorkersBut_7 : decode cX4_allWorkersBut 7 = .ok (.iconst (-1), 1) := by decide +kernel
theorem dX4_allWorkersBut_8 : decode cX4_allWorkersBut 8 = .ok (.ixor, 1) := by decide +kernel
theorem dX4_allWorkersBut_9 : decode cX4_allWorkersBut 9 = .ok (.iand, 1) := by decide +kernel
theorem dX4_allWorkersBut_10 : decode cX4_allWorkersBut 10 = .ok (.ireturn, 1) := by decide +kernel
end
section
/-! MY CONTRACTS: the class's tables -/
def FI (f : Int → Int → Int) (b : Int) (i : Int) : Int := Nat.rec b (fun n a => f a n) i.toNat
theorem FI_0 {f : Int → Int → Int} {b : Int} : FI f b 0 = b := rfl
theorem FI_s {f : Int → Int → Int} {b i : Int} (h : 0 ≤ i) : FI f b (i + 1) = f (FI f b i) i := by
  unfold FI
  have e : (i + 1).toNat = i.toNat + 1 := by omega
  rw [e]
  show f _ (i.toNat : Int) = _
  rw [Int.toNat_of_nonneg h]
theorem ite_l {c : Prop} {d : Decidable c} {a b r : Int} (h1 : c → a = r) (h2 : ¬ c → b = r) : (if c then a else b) = r := by
  by_cases h : c
  · rw [if_pos h]; exact h1 h
  · rw [if_neg h]; exact h2 h
theorem ite_r {c : Prop} {d : Decidable c} {a b r : Int} (h1 : c → r = a) (h2 : ¬ c → r = b) : r = (if c then a else b) := by
  by_cases h : c
  · rw [if_pos h]; exact h1 h
  · rw [if_neg h]; exact h2 h
theorem st_c {σ : St} {a b c d : Int} (h1 : a = c) (h2 : b = d) : σ a b = σ c d := by rw [h1, h2]
def isB (σ : St) (t w j : Int) : Int := if j ≠ -1 ∧ σ (TR t w) j = -1 then 1 else 0
def cW (σ : St) (t w j : Int) : Int := if j = -1 then σ (TI t) w else σ (TR t w) j
def gC (σ : St) (t w i : Int) : Int := FI (fun a j => max a (σ (TR t w) j)) (σ (TI t) w) i
theorem gC_s {σ : St} {t w i : Int} (h : 0 ≤ i) : gC σ t w (i + 1) = max (gC σ t w i) (σ (TR t w) i) := FI_s h
def oR (σ : St) (t w b j : Int) : Int := FI (fun a j => if σ (TR t w) j = -1 then a else a + 1) b j
theorem oR_s {σ : St} {t w b i : Int} (h : 0 ≤ i) : oR σ t w b (i + 1) = if σ (TR t w) i = -1 then oR σ t w b i else oR σ t w b i + 1 := FI_s h
def oP (σ : St) (t n i : Int) : Int := FI (fun a w => oR σ t w a n) 0 i
theorem oP_s {σ : St} {t n i : Int} (h : 0 ≤ i) : oP σ t n (i + 1) = oR σ t i (oP σ t n i) n := FI_s h
theorem isB_01 (σ : St) (t w j : Int) : (isB σ t w j = 1 ∧ j ≠ -1 ∧ σ (TR t w) j = -1) ∨ (isB σ t w j = 0 ∧ (j = -1 ∨ σ (TR t w) j ≠ -1)) := by
  unfold isB
  by_cases h : j ≠ -1 ∧ σ (TR t w) j = -1
  · rw [if_pos h]; exact Or.inl ⟨rfl, h.1, h.2⟩
  · rw [if_neg h]; exact Or.inr ⟨rfl, by omega⟩
/-- a copy under way: rows below w whole, idle costs below v, of row w the places below j -/
def cpL (σ : St) (t u w v j : Int) : St := fun q k =>
  if q = TB t ∧ (k = 0 ∨ k = 1) then σ (TB u) k else if q = TI t ∧ 0 ≤ k ∧ k < v then σ (TI u) k
  else if TR t 0 ≤ q ∧ q < TR t w ∧ 0 ≤ k ∧ k < 7 then σ (q + 10 * (u - t)) k else if q = TR t w ∧ 0 ≤ k ∧ k < j then σ (TR u w) k else σ q k
def cpT (σ : St) (t u : Int) : St := cpL σ t u 7 7 0
def adW (σ : St) (t x j z : Int) : St := fun q k =>
  if q = TB t ∧ k = 0 then σ (TB t) 0 + z else if q = TI t ∧ k = σ (TB t) 0 then x else if q = TR t (σ (TB t) 0) ∧ 0 ≤ k ∧ k < j then -1 else σ q k
def adT (σ : St) (t j z : Int) : St := fun q k =>
  if q = TB t ∧ k = 1 then σ (TB t) 1 + z else if TR t 0 ≤ q ∧ q < TR t j ∧ k = σ (TB t) 1 then -1 else σ q k
def rmW (σ : St) (t d w v j : Int) : St := fun q k =>
  if q = TB t ∧ k = 0 then σ (TB t) 0 - 1 else if q = TI t ∧ d ≤ k ∧ k < v then σ (TI t) (k + 1)
  else if TR t d ≤ q ∧ q < TR t w ∧ 0 ≤ k ∧ k < σ (TB t) 1 then σ (q + 1) k else if q = TR t w ∧ 0 ≤ k ∧ k < j then σ (q + 1) k else σ q k
def rmT (σ : St) (t d w j : Int) : St := fun q k =>
  if q = TB t ∧ k = 1 then σ (TB t) 1 - 1 else if TR t 0 ≤ q ∧ q < TR t w ∧ d ≤ k ∧ k < σ (TB t) 1 - 1 then σ q (k + 1) else if q = TR t w ∧ d ≤ k ∧ k < j then σ q (k + 1) else σ q k
def muC (σ : St) (t w f j : Int) : St := fun q k =>
  if q = TI t ∧ k = w then σ (TI t) w * f else if q = TR t w ∧ 0 ≤ k ∧ k < j ∧ σ (TR t w) k ≠ -1 then σ (TR t w) k * f else σ q k
set_option maxHeartbeats 4000000 in
set_option maxRecDepth 100000 in
theorem k_X4_isBarred (E0 : EV) {ad : Int → Nat} {σ : St} {t w j : Int} (ht : 0 ≤ t ∧ t < 6) (hw : 0 ≤ w ∧ w < 7) (hj : -1 ≤ j ∧ j < 7) : MGE E0 yX4_isBarred wsX4_isBarred 0 0 ad σ [.ref (ad (TB t)), .int (iI w), .int (iI j)] (PF (isB σ t w j) σ) := by
  refine MGE.of (cc := cX4_isBarred) (maxL := 3) (ret := (some .boolean)) (own := RX4) [some (.ref (ad (TB t))), some (.int (iI w)), some (.int (iI j))] (by decide +kernel) rfl rfl (Nat.le_of_ble_eq_true rfl) rfl rfl (fun E X hr => ?_)
  have i4 : ∀ w ∈ wsX40, w ∈ wsX4_isBarred := by decide +kernel
  refine g_rg (fun hR0 => ?_)
  refine g_iload2 X dX4_isBarred_0 ?_
  refine g_iconst X dX4_isBarred_1 ?_
  refine g_icmp_eq (tgt := 21) X (by first | exact hR0 _ _ | assumption | (unfold InR; omega)) (by first | exact hR0 _ _ | assumption | (unfold InR; omega)) dX4_isBarred_2 (by decide) (fun h2 => ?_) (fun h2 => ?_)
  · skip
    refine g_iconst X dX4_isBarred_21 ?_
    exact g_zretF X hr (by first | exact Or.inl rfl | exact Or.inr rfl | omega) (by first | exact ⟨by simp_all [isB, cW], rfl⟩ | exact ⟨by unfold isB; rw [if_pos (by omega)], rfl⟩ | exact ⟨by unfold isB; rw [if_neg (by omega)], rfl⟩ | exact ⟨by unfold cW; rw [if_pos (by omega)], rfl⟩ | exact ⟨by unfold cW; rw [if_neg (by omega)], rfl⟩) dX4_isBarred_22
  · skip
    refine g_aload0 X dX4_isBarred_5 ?_
    refine gf_4_costs X (by omega) i4 (by decide +kernel) dX4_isBarred_6 ?_
    refine g_iload1 X dX4_isBarred_9 ?_
    refine g_aald_TC X (by omega) (by omega) dX4_isBarred_10 ?_
    refine g_iload2 X dX4_isBarred_11 ?_
    refine g_iald X (ia_TR (by omega) (by omega) (by omega)) dX4_isBarred_12 ?_
    refine g_iconst X dX4_isBarred_13 ?_
    refine g_icmp_ne (tgt := 21) X (by first | exact hR0 _ _ | assumption | (unfold InR; omega)) (by first | exact hR0 _ _ | assumption | (unfold InR; omega)) dX4_isBarred_14 (by decide) (fun h14 => ?_) (fun h14 => ?_)
    · skip
      refine g_iconst X dX4_isBarred_21 ?_
      exact g_zretF X hr (by first | exact Or.inl rfl | exact Or.inr rfl | omega) (by first | exact ⟨by simp_all [isB, cW], rfl⟩ | exact ⟨by unfold isB; rw [if_pos (by omega)], rfl⟩ | exact ⟨by unfold isB; rw [if_neg (by omega)], rfl⟩ | exact ⟨by unfold cW; rw [if_pos (by omega)], rfl⟩ | exact ⟨by unfold cW; rw [if_neg (by omega)], rfl⟩) dX4_isBarred_22
    · skip
      refine g_iconst X dX4_isBarred_17 ?_
      refine g_goto (tgt := 22) X dX4_isBarred_18 (by decide) ?_
      exact g_zretF X hr (by first | exact Or.inl rfl | exact Or.inr rfl | omega) (by first | exact ⟨by simp_all [isB, cW], rfl⟩ | exact ⟨by unfold isB; rw [if_pos (by omega)], rfl⟩ | exact ⟨by unfold isB; rw [if_neg (by omega)], rfl⟩ | exact ⟨by unfold cW; rw [if_pos (by omega)], rfl⟩ | exact ⟨by unfold cW; rw [if_neg (by omega)], rfl⟩) dX4_isBarred_22

set_option maxHeartbeats 4000000 in
set_option maxRecDepth 100000 in
theorem k_X4_costWith (E0 : EV) {ad : Int → Nat} {σ : St} {t w j : Int} (ht : 0 ≤ t ∧ t < 6) (hw : 0 ≤ w ∧ w < 7) (hj : -1 ≤ j ∧ j < 7) : MGE E0 yX4_costWith wsX4_costWith 0 0 ad σ [.ref (ad (TB t)), .int (iI w), .int (iI j)] (PF (cW σ t w j) σ) := by
  refine MGE.of (cc := cX4_costWith) (maxL := 3) (ret := (some .int)) (own := RX4) [some (.ref (ad (TB t))), some (.int (iI w)), some (.int (iI j))] (by decide +kernel) rfl rfl (Nat.le_of_ble_eq_true rfl) rfl rfl (fun E X hr => ?_)
  have i4 : ∀ w ∈ wsX40, w ∈ wsX4_costWith := by decide +kernel
  refine g_rg (fun hR0 => ?_)
  refine g_iload2 X dX4_costWith_0 ?_
  refine g_iconst X dX4_costWith_1 ?_
  refine g_icmp_ne (tgt := 14) X (by first | exact hR0 _ _ | assumption | (unfold InR; omega)) (by first | exact hR0 _ _ | assumption | (unfold InR; omega)) dX4_costWith_2 (by decide) (fun h2 => ?_) (fun h2 => ?_)
  · skip
    refine g_aload0 X dX4_costWith_14 ?_
    refine gf_4_costs X (by omega) i4 (by decide +kernel) dX4_costWith_15 ?_
    refine g_iload1 X dX4_costWith_18 ?_
    refine g_aald_TC X (by omega) (by omega) dX4_costWith_19 ?_
    refine g_iload2 X dX4_costWith_20 ?_
    refine g_iald X (ia_TR (by omega) (by omega) (by omega)) dX4_costWith_21 ?_
    exact g_iretF X hr (by first | exact hR0 _ _ | assumption | (unfold InR; omega)) (by first | exact ⟨by simp_all [isB, cW], rfl⟩ | exact ⟨by unfold isB; rw [if_pos (by omega)], rfl⟩ | exact ⟨by unfold isB; rw [if_neg (by omega)], rfl⟩ | exact ⟨by unfold cW; rw [if_pos (by omega)], rfl⟩ | exact ⟨by unfold cW; rw [if_neg (by omega)], rfl⟩) dX4_costWith_22
  · skip
    refine g_aload0 X dX4_costWith_5 ?_
    refine gf_4_idleCosts X (by omega) i4 (by decide +kernel) dX4_costWith_6 ?_
    refine g_iload1 X dX4_costWith_9 ?_
    refine g_iald X (ia_TI (by omega) (by omega)) dX4_costWith_10 ?_
    refine g_goto (tgt := 22) X dX4_costWith_11 (by decide) ?_
    exact g_iretF X hr (by first | exact hR0 _ _ | assumption | (unfold InR; omega)) (by first | exact ⟨by simp_all [isB, cW], rfl⟩ | exact ⟨by unfold isB; rw [if_pos (by omega)], rfl⟩ | exact ⟨by unfold isB; rw [if_neg (by omega)], rfl⟩ | exact ⟨by unfold cW; rw [if_pos (by omega)], rfl⟩ | exact ⟨by unfold cW; rw [if_neg (by omega)], rfl⟩) dX4_costWith_22

set_option maxHeartbeats 4000000 in
set_option maxRecDepth 100000 in
theorem k_X4_allWorkers (E0 : EV) {ad : Int → Nat} {σ : St} {t : Int} (ht : 0 ≤ t ∧ t < 6) (hm : 0 ≤ σ (TB t) 0 ∧ σ (TB t) 0 ≤ 7) : MGE E0 yX4_allWorkers wsX4_allWorkers 0 0 ad σ [.ref (ad (TB t))] (PF (p2 (σ (TB t) 0) - 1) σ) := by
  refine MGE.of (cc := cX4_allWorkers) (maxL := 1) (ret := (some .int)) (own := RX4) [some (.ref (ad (TB t)))] (by decide +kernel) rfl rfl (Nat.le_of_ble_eq_true rfl) rfl rfl (fun E X hr => ?_)
  have i4 : ∀ w ∈ wsX40, w ∈ wsX4_allWorkers := by decide +kernel
  refine g_rg (fun hR0 => ?_)
  refine g_iconst X dX4_allWorkers_0 ?_
  refine g_aload0 X dX4_allWorkers_1 ?_
  refine gf_4_workers X (by omega) i4 (by decide +kernel) dX4_allWorkers_2 ?_
  refine g_ishl X (b_shl (by omega)) dX4_allWorkers_5 ?_
  refine g_iconst X dX4_allWorkers_6 ?_
  refine g_isub X dX4_allWorkers_7 ?_
  have hp := p2_k (k := σ (TB t) 0) (by omega)
  exact g_iretF X hr (by first | exact hR0 _ _ | assumption | (unfold InR; omega)) (by first | exact ⟨rfl, rfl⟩ | rfl | simp_all) dX4_allWorkers_8

set_option maxHeartbeats 4000000 in
set_option maxRecDepth 100000 in
theorem k_X4_allWorkersBut (E0 : EV) {ad : Int → Nat} {σ : St} {t w : Int} (ht : 0 ≤ t ∧ t < 6) (hm : 0 ≤ σ (TB t) 0 ∧ σ (TB t) 0 ≤ 7) (hw : 0 ≤ w ∧ w < 7) : MGE E0 yX4_allWorkersBut wsX4_allWorkersBut 1 20 ad σ [.ref (ad (TB t)), .int (iI w)] (PF (ub (p2 (σ (TB t) 0) - 1) w) σ) := by
  refine MGE.of (cc := cX4_allWorkersBut) (maxL := 2) (ret := (some .int)) (own := RX4) [some (.ref (ad (TB t))), some (.int (iI w))] (by decide +kernel) rfl rfl (Nat.le_of_ble_eq_true rfl) rfl rfl (fun E X hr => ?_)
  refine g_rg (fun hR0 => ?_)
  refine g_aload0 X dX4_allWorkersBut_0 ?_
  refine g_F0 X (k_X4_allWorkers E (by omega) (by omega)) gX4_allWorkersBut_X4_allWorkers rfl (by decide +kernel) (by decide) (ob_TB (by omega)) (Nat.le_of_ble_eq_true rfl) dX4_allWorkersBut_1 (fun hz1 => ?_)
  refine g_rg (fun hR1 => ?_)
  have hp := p2_k (k := σ (TB t) 0) (by omega)
  have hp2 := p2_k (k := w) (by omega)
  have hp5 := p2_lt (k := w) (n := 8) (by omega) (by omega) (by omega)
  have hp3 := p2_lt (k := σ (TB t) 0) (n := 8) (by omega) (by omega) (by omega)
  have hp4 : p2 8 = 256 := rfl
  refine g_iconst X dX4_allWorkersBut_4 ?_
  refine g_iload1 X dX4_allWorkersBut_5 ?_
  refine g_ishl X (b_shl (by omega)) dX4_allWorkersBut_6 ?_
  refine g_iconst X dX4_allWorkersBut_7 ?_
  refine g_ixor X (b_xorm (by omega)) dX4_allWorkersBut_8 ?_
  refine g_iand X (b_andn (by omega) (by omega)) dX4_allWorkersBut_9 ?_
  have hu := ub_lt (m := p2 (σ (TB t) 0) - 1) (k := w) (n := 8) (by omega) (by omega) (by omega)
  exact g_iretF X hr (by first | exact hR1 _ _ | exact hR0 _ _ | assumption | (unfold InR; omega)) (by first | exact ⟨rfl, rfl⟩ | rfl | simp_all) dX4_allWorkersBut_10

set_option maxHeartbeats 4000000 in
set_option maxRecDepth 100000 in
theorem k_X4_greatestCost (E0 : EV) {ad : Int → Nat} {σ : St} {t w : Int} (ht : 0 ≤ t ∧ t < 6) (hn : 0 ≤ σ (TB t) 1 ∧ σ (TB t) 1 ≤ 7) (hw : 0 ≤ w ∧ w < 7) : MGE E0 yX4_greatestCost wsX4_greatestCost 1 21 ad σ [.ref (ad (TB t)), .int (iI w)] (PF (gC σ t w (σ (TB t) 1)) σ) := by
  refine MGE.of (cc := cX4_greatestCost) (maxL := 4) (ret := (some .int)) (own := RX4) [some (.ref (ad (TB t))), some (.int (iI w)), none, none] (by decide +kernel) rfl rfl (Nat.le_of_ble_eq_true rfl) rfl rfl (fun E X hr => ?_)
  have i4 : ∀ w ∈ wsX40, w ∈ wsX4_greatestCost := by decide +kernel
  refine g_rg (fun hR0 => ?_)
  refine g_aload0 X dX4_greatestCost_0 ?_
  refine gf_4_idleCosts X (by omega) i4 (by decide +kernel) dX4_greatestCost_1 ?_
  refine g_iload1 X dX4_greatestCost_4 ?_
  refine g_iald X (ia_TI (by omega) (by omega)) dX4_greatestCost_5 ?_
  refine g_istore2 X dX4_greatestCost_6 (by decide) (by first | exact Or.inl rfl | exact Or.inr ⟨_, rfl, rfl⟩) ?_
  refine g_iconst X dX4_greatestCost_7 ?_
  refine g_istore3 X dX4_greatestCost_8 (by decide) (by first | exact Or.inl rfl | exact Or.inr ⟨_, rfl, rfl⟩) ?_
  have L9 : ∀ (n9 : Nat) (i a : Int), (σ (TB t) 1 - i).toNat < n9 → (0 ≤ i ∧ i ≤ σ (TB t) 1) → (InR a) → (a = gC σ t w i) → WG E ad 4 σ 9 [some (.ref (ad (TB t))), some (.int (iI w)), some (.int (iI a)), some (.int (iI i))] [] := by
    intro n9
    induction n9 with
    | zero => intro i a hn; exact absurd hn (Nat.not_lt_zero _)
    | succ n9 ih9 =>
      intro i a hn9 hi ha hs
      refine g_rg (fun hRL9 => ?_)
      refine g_iload3 X dX4_greatestCost_9 ?_
      refine g_aload0 X dX4_greatestCost_10 ?_
      refine gf_4_tasks X (by omega) i4 (by decide +kernel) dX4_greatestCost_11 ?_
      refine g_icmp_ge (tgt := 36) X (by first | exact hRL9 _ _ | exact hR0 _ _ | assumption | (unfold InR; omega)) (by first | exact hRL9 _ _ | exact hR0 _ _ | assumption | (unfold InR; omega)) dX4_greatestCost_14 (by decide) (fun h14 => ?_) (fun h14 => ?_)
      · skip
        refine g_iload2 X dX4_greatestCost_36 ?_
        exact g_iretF X hr (by first | exact hRL9 _ _ | exact hR0 _ _ | assumption | (unfold InR; omega)) ⟨by rw [hs]; congr 1; omega, rfl⟩ dX4_greatestCost_37
      · skip
        refine g_iload2 X dX4_greatestCost_17 ?_
        refine g_aload0 X dX4_greatestCost_18 ?_
        refine gf_4_costs X (by omega) i4 (by decide +kernel) dX4_greatestCost_19 ?_
        refine g_iload1 X dX4_greatestCost_22 ?_
        refine g_aald_TC X (by omega) (by omega) dX4_greatestCost_23 ?_
        refine g_iload3 X dX4_greatestCost_24 ?_
        refine g_iald X (ia_TR (by omega) (by omega) (by omega)) dX4_greatestCost_25 ?_
        refine g_max X (by first | exact hRL9 _ _ | exact hR0 _ _ | assumption | (unfold InR; omega)) (by first | exact hRL9 _ _ | exact hR0 _ _ | assumption | (unfold InR; omega)) (by decide +kernel) (by decide +kernel) (by decide +kernel) (by decide +kernel) (by decide) (Nat.le_of_ble_eq_true rfl) dX4_greatestCost_26 ?_
        refine g_istore2 X dX4_greatestCost_29 (by decide) (by first | exact Or.inl rfl | exact Or.inr ⟨_, rfl, rfl⟩) ?_
        refine g_iinc3 X dX4_greatestCost_30 (by decide) (by first | exact Or.inl rfl | exact Or.inr ⟨_, rfl, rfl⟩) ?_
        refine g_goto (tgt := 9) X dX4_greatestCost_33 (by decide) ?_
        refine ih9 _ _ (by omega) ?_ ?_ ?_
        · omega
        · unfold InR at ha ⊢
          have h9 := hR0 (TR t w) i
          unfold InR at h9
          omega
        · rw [hs]
          exact (gC_s hi.1).symm
  refine L9 _ _ _ (Nat.lt_succ_self _) ?_ ?_ ?_
  · omega
  · exact hR0 _ _
  · rfl

set_option maxHeartbeats 4000000 in
set_option maxRecDepth 100000 in
theorem k_X4_openPairs (E0 : EV) {ad : Int → Nat} {σ : St} {t : Int} (ht : 0 ≤ t ∧ t < 6) (hm : 0 ≤ σ (TB t) 0 ∧ σ (TB t) 0 ≤ 7) (hn : 0 ≤ σ (TB t) 1 ∧ σ (TB t) 1 ≤ 7) : MGE E0 yX4_openPairs wsX4_openPairs 1 22 ad σ [.ref (ad (TB t))] (PF (oP σ t (σ (TB t) 1) (σ (TB t) 0)) σ) := by
  refine MGE.of (cc := cX4_openPairs) (maxL := 4) (ret := (some .int)) (own := RX4) [some (.ref (ad (TB t))), none, none, none] (by decide +kernel) rfl rfl (Nat.le_of_ble_eq_true rfl) rfl rfl (fun E X hr => ?_)
  have i4 : ∀ w ∈ wsX40, w ∈ wsX4_openPairs := by decide +kernel
  refine g_rg (fun hR0 => ?_)
  refine g_iconst X dX4_openPairs_0 ?_
  refine g_istore1 X dX4_openPairs_1 (by decide) (by first | exact Or.inl rfl | exact Or.inr ⟨_, rfl, rfl⟩) ?_
  refine g_iconst X dX4_openPairs_2 ?_
  refine g_istore2 X dX4_openPairs_3 (by decide) (by first | exact Or.inl rfl | exact Or.inr ⟨_, rfl, rfl⟩) ?_
  have L4 : ∀ (n4 : Nat) (i a : Int) (u : Option Value), (σ (TB t) 0 - i).toNat < n4 → (0 ≤ i ∧ i ≤ σ (TB t) 0) → (0 ≤ a ∧ a ≤ 7 * i) → (a = oP σ t (σ (TB t) 1) i) → WG E ad 4 σ 4 [some (.ref (ad (TB t))), some (.int (iI a)), some (.int (iI i)), u] [] := by
    intro n4
    induction n4 with
    | zero => intro i a u hn; exact absurd hn (Nat.not_lt_zero _)
    | succ n4 ih4 =>
      intro i a u hn4 hi ha hs
      refine g_rg (fun hRL4 => ?_)
      refine g_iload2 X dX4_openPairs_4 ?_
      refine g_aload0 X dX4_openPairs_5 ?_
      refine gf_4_workers X (by omega) i4 (by decide +kernel) dX4_openPairs_6 ?_
      refine g_icmp_ge (tgt := 46) X (by first | exact hRL4 _ _ | exact hR0 _ _ | assumption | (unfold InR; omega)) (by first | exact hRL4 _ _ | exact hR0 _ _ | assumption | (unfold InR; omega)) dX4_openPairs_9 (by decide) (fun h9 => ?_) (fun h9 => ?_)
      · skip
        refine g_iload1 X dX4_openPairs_46 ?_
        exact g_iretF X hr (by first | exact hRL4 _ _ | exact hR0 _ _ | assumption | (unfold InR; omega)) ⟨by rw [hs]; congr 1; omega, rfl⟩ dX4_openPairs_47
      · skip
        refine g_iconst X dX4_openPairs_12 ?_
        refine g_istore3 X dX4_openPairs_13 (by decide) (by first | exact Or.inl rfl | exact Or.inr ⟨_, rfl, rfl⟩) ?_
        have L14 : ∀ (n14 : Nat) (j b : Int), (σ (TB t) 1 - j).toNat < n14 → (0 ≤ j ∧ j ≤ σ (TB t) 1) → (0 ≤ b ∧ b ≤ 7 * i + j) → (b = oR σ t i a j) → WG E ad 4 σ 14 [some (.ref (ad (TB t))), some (.int (iI b)), some (.int (iI i)), some (.int (iI j))] [] := by
          intro n14
          induction n14 with
          | zero => intro j b hn; exact absurd hn (Nat.not_lt_zero _)
          | succ n14 ih14 =>
            intro j b hn14 hj hb hs2
            refine g_rg (fun hRL14 => ?_)
            refine g_iload3 X dX4_openPairs_14 ?_
            refine g_aload0 X dX4_openPairs_15 ?_
            refine gf_4_tasks X (by omega) i4 (by decide +kernel) dX4_openPairs_16 ?_
            refine g_icmp_ge (tgt := 40) X (by first | exact hRL14 _ _ | exact hRL4 _ _ | exact hR0 _ _ | assumption | (unfold InR; omega)) (by first | exact hRL14 _ _ | exact hRL4 _ _ | exact hR0 _ _ | assumption | (unfold InR; omega)) dX4_openPairs_19 (by decide) (fun h19 => ?_) (fun h19 => ?_)
            · skip
              refine g_iinc2 X dX4_openPairs_40 (by decide) (by first | exact Or.inl rfl | exact Or.inr ⟨_, rfl, rfl⟩) ?_
              refine g_goto (tgt := 4) X dX4_openPairs_43 (by decide) ?_
              refine ih4 _ _ _ (by omega) ?_ ?_ ?_
              · omega
              · omega
              · rw [hs2, hs, oP_s hi.1]; congr 1; omega
            · skip
              refine g_aload0 X dX4_openPairs_22 ?_
              refine g_iload2 X dX4_openPairs_23 ?_
              refine g_iload3 X dX4_openPairs_24 ?_
              refine g_F2 X (k_X4_isBarred E (by omega) (by omega) (by omega)) gX4_openPairs_X4_isBarred rfl (by decide +kernel) (by decide) (ob_TB (by omega)) (Nat.le_of_ble_eq_true rfl) dX4_openPairs_25 (fun hz25 => ?_)
              refine g_rg (fun hR25 => ?_)
              have hb1 := isB_01 σ t i j
              refine g_if_ne (tgt := 34) X (by first | exact hR25 _ _ | exact hRL14 _ _ | exact hRL4 _ _ | exact hR0 _ _ | assumption | (unfold InR; omega)) dX4_openPairs_28 (by decide) (fun h28 => ?_) (fun h28 => ?_)
              · skip
                refine g_iinc3 X dX4_openPairs_34 (by decide) (by first | exact Or.inl rfl | exact Or.inr ⟨_, rfl, rfl⟩) ?_
                refine g_goto (tgt := 14) X dX4_openPairs_37 (by decide) ?_
                refine ih14 _ _ (by omega) ?_ ?_ ?_
                · omega
                · omega
                · first | (rw [hs2, oR_s hj.1, if_pos (by omega)]; done) | (rw [hs2, oR_s hj.1, if_neg (by omega)]; done)
              · skip
                refine g_iinc1 X dX4_openPairs_31 (by decide) (by first | exact Or.inl rfl | exact Or.inr ⟨_, rfl, rfl⟩) ?_
                refine g_iinc3 X dX4_openPairs_34 (by decide) (by first | exact Or.inl rfl | exact Or.inr ⟨_, rfl, rfl⟩) ?_
                refine g_goto (tgt := 14) X dX4_openPairs_37 (by decide) ?_
                refine ih14 _ _ (by omega) ?_ ?_ ?_
                · omega
                · omega
                · first | (rw [hs2, oR_s hj.1, if_pos (by omega)]; done) | (rw [hs2, oR_s hj.1, if_neg (by omega)]; done)
        refine L14 _ _ _ (Nat.lt_succ_self _) ?_ ?_ ?_
        · omega
        · omega
        · rfl
  refine L4 _ _ _ _ (Nat.lt_succ_self _) ?_ ?_ ?_
  · omega
  · omega
  · rfl

set_option maxHeartbeats 4000000 in
set_option maxRecDepth 100000 in
theorem k_X4_copyFrom (E0 : EV) {ad : Int → Nat} {σ : St} {t u : Int} (ht : 0 ≤ t ∧ t < 6) (hu : 0 ≤ u ∧ u < 6) : MGE E0 yX4_copyFrom wsX4_copyFrom 0 0 ad σ [.ref (ad (TB t)), .ref (ad (TB u))] (PW (cpT σ t u)) := by
  refine MGE.of (cc := cX4_copyFrom) (maxL := 4) (ret := none) (own := RX4) [some (.ref (ad (TB t))), some (.ref (ad (TB u))), none, none] (by decide +kernel) rfl rfl (Nat.le_of_ble_eq_true rfl) rfl rfl (fun E X hr => ?_)
  have i4 : ∀ w ∈ wsX40, w ∈ wsX4_copyFrom := by decide +kernel
  refine g_rg (fun hR0 => ?_)
  refine g_aload0 X dX4_copyFrom_0 ?_
  refine g_aload1 X dX4_copyFrom_1 ?_
  refine gf_4_workers X (by omega) i4 (by decide +kernel) dX4_copyFrom_2 ?_
  refine gp_4_workers X (by omega) i4 (by decide +kernel) (by first | exact hR0 _ _ | assumption | (unfold InR; omega)) dX4_copyFrom_5 ?_
  refine g_rg (fun hR5 => ?_)
  refine g_aload0 X dX4_copyFrom_8 ?_
  refine g_aload1 X dX4_copyFrom_9 ?_
  refine gf_4_tasks X (by omega) i4 (by decide +kernel) dX4_copyFrom_10 ?_
  refine gp_4_tasks X (by omega) i4 (by decide +kernel) (by first | exact hR5 _ _ | exact hR0 _ _ | assumption | (unfold InR; omega)) dX4_copyFrom_13 ?_
  refine g_rg (fun hR13 => ?_)
  refine g_iconst X dX4_copyFrom_16 ?_
  refine g_istore2 X dX4_copyFrom_17 (by decide) (by first | exact Or.inl rfl | exact Or.inr ⟨_, rfl, rfl⟩) ?_
  have L18 : ∀ (n18 : Nat) (w : Int) (σ1 : St) (u3 : Option Value), (7 - w).toNat < n18 → (0 ≤ w ∧ w ≤ 7) → (σ1 = cpL σ t u w w 0) → WG E ad 4 σ1 18 [some (.ref (ad (TB t))), some (.ref (ad (TB u))), some (.int (iI w)), u3] [] := by
    intro n18
    induction n18 with
    | zero => intro w σ1 u3 hn; exact absurd hn (Nat.not_lt_zero _)
    | succ n18 ih18 =>
      intro w σ1 u3 hn18 hw hs
      refine g_rg (fun hRL18 => ?_)
      refine g_iload2 X dX4_copyFrom_18 ?_
      refine g_bipush X dX4_copyFrom_19 (by decide +kernel) ?_
      refine g_icmp_ge (tgt := 72) X (by first | exact hRL18 _ _ | exact hR13 _ _ | exact hR5 _ _ | exact hR0 _ _ | assumption | (unfold InR; omega)) (by first | exact hRL18 _ _ | exact hR13 _ _ | exact hR5 _ _ | exact hR0 _ _ | assumption | (unfold InR; omega)) dX4_copyFrom_21 (by decide) (fun h21 => ?_) (fun h21 => ?_)
      · skip
        exact g_vretW X hr (by rw [hs, show w = 7 by omega]; rfl) dX4_copyFrom_72
      · skip
        refine g_aload0 X dX4_copyFrom_24 ?_
        refine gf_4_idleCosts X (by omega) i4 (by decide +kernel) dX4_copyFrom_25 ?_
        refine g_iload2 X dX4_copyFrom_28 ?_
        refine g_aload1 X dX4_copyFrom_29 ?_
        refine gf_4_idleCosts X (by omega) i4 (by decide +kernel) dX4_copyFrom_30 ?_
        refine g_iload2 X dX4_copyFrom_33 ?_
        refine g_iald X (ia_TI (by omega) (by omega)) dX4_copyFrom_34 ?_
        refine g_iast X (ia_TI (by omega) (by omega)) (by first | exact hRL18 _ _ | exact hR13 _ _ | exact hR5 _ _ | exact hR0 _ _ | assumption | (unfold InR; omega)) dX4_copyFrom_35 ?_
        refine g_rg (fun hR35 => ?_)
        refine g_iconst X dX4_copyFrom_36 ?_
        refine g_istore3 X dX4_copyFrom_37 (by decide) (by first | exact Or.inl rfl | exact Or.inr ⟨_, rfl, rfl⟩) ?_
        have L38 : ∀ (n38 : Nat) (j : Int) (σ2 : St), (7 - j).toNat < n38 → (0 ≤ j ∧ j ≤ 7) → (σ2 = cpL σ t u w (w + 1) j) → WG E ad 4 σ2 38 [some (.ref (ad (TB t))), some (.ref (ad (TB u))), some (.int (iI w)), some (.int (iI j))] [] := by
          intro n38
          induction n38 with
          | zero => intro j σ2 hn; exact absurd hn (Nat.not_lt_zero _)
          | succ n38 ih38 =>
            intro j σ2 hn38 hj hs2
            refine g_rg (fun hRL38 => ?_)
            refine g_iload3 X dX4_copyFrom_38 ?_
            refine g_bipush X dX4_copyFrom_39 (by decide +kernel) ?_
            refine g_icmp_ge (tgt := 66) X (by first | exact hRL38 _ _ | exact hR35 _ _ | exact hRL18 _ _ | exact hR13 _ _ | exact hR5 _ _ | exact hR0 _ _ | assumption | (unfold InR; omega)) (by first | exact hRL38 _ _ | exact hR35 _ _ | exact hRL18 _ _ | exact hR13 _ _ | exact hR5 _ _ | exact hR0 _ _ | assumption | (unfold InR; omega)) dX4_copyFrom_41 (by decide) (fun h41 => ?_) (fun h41 => ?_)
            · skip
              refine g_iinc2 X dX4_copyFrom_66 (by decide) (by first | exact Or.inl rfl | exact Or.inr ⟨_, rfl, rfl⟩) ?_
              refine g_goto (tgt := 18) X dX4_copyFrom_69 (by decide) ?_
              refine ih18 _ _ _ (by omega) ?_ ?_
              · omega
              · rw [hs2]
                funext q k
                simp only [up, cpL, TB, TI, TC, TR, Int.add_zero, and_true, true_and]
                simp only [TB, TI, TC, TR] at *
                repeat' first | refine ite_l (fun h => ?_) (fun h => ?_) | refine ite_r (fun h => ?_) (fun h => ?_)
                all_goals first | omega | (refine st_c ?_ ?_ <;> omega) | (refine congrArg (fun x => x * f) (st_c ?_ ?_) <;> omega) | skip
            · skip
              refine g_aload0 X dX4_copyFrom_44 ?_
              refine gf_4_costs X (by omega) i4 (by decide +kernel) dX4_copyFrom_45 ?_
              refine g_iload2 X dX4_copyFrom_48 ?_
              refine g_aald_TC X (by omega) (by omega) dX4_copyFrom_49 ?_
              refine g_iload3 X dX4_copyFrom_50 ?_
              refine g_aload1 X dX4_copyFrom_51 ?_
              refine gf_4_costs X (by omega) i4 (by decide +kernel) dX4_copyFrom_52 ?_
              refine g_iload2 X dX4_copyFrom_55 ?_
              refine g_aald_TC X (by omega) (by omega) dX4_copyFrom_56 ?_
              refine g_iload3 X dX4_copyFrom_57 ?_
              refine g_iald X (ia_TR (by omega) (by omega) (by omega)) dX4_copyFrom_58 ?_
              refine g_iast X (ia_TR (by omega) (by omega) (by omega)) (by first | exact hRL38 _ _ | exact hR35 _ _ | exact hRL18 _ _ | exact hR13 _ _ | exact hR5 _ _ | exact hR0 _ _ | assumption | (unfold InR; omega)) dX4_copyFrom_59 ?_
              refine g_rg (fun hR59 => ?_)
              refine g_iinc3 X dX4_copyFrom_60 (by decide) (by first | exact Or.inl rfl | exact Or.inr ⟨_, rfl, rfl⟩) ?_
              refine g_goto (tgt := 38) X dX4_copyFrom_63 (by decide) ?_
              refine ih38 _ _ (by omega) ?_ ?_
              · omega
              · rw [hs2]
                funext q k
                simp only [up, cpL, TB, TI, TC, TR, Int.add_zero, and_true, true_and]
                simp only [TB, TI, TC, TR] at *
                repeat' first | refine ite_l (fun h => ?_) (fun h => ?_) | refine ite_r (fun h => ?_) (fun h => ?_)
                all_goals first | omega | (refine st_c ?_ ?_ <;> omega) | (refine congrArg (fun x => x * f) (st_c ?_ ?_) <;> omega) | skip
        refine L38 _ _ _ (Nat.lt_succ_self _) ?_ ?_
        · omega
        · rw [hs]
          funext q k
          simp only [up, cpL, TB, TI, TC, TR, Int.add_zero, and_true, true_and]
          simp only [TB, TI, TC, TR] at *
          repeat' first | refine ite_l (fun h => ?_) (fun h => ?_) | refine ite_r (fun h => ?_) (fun h => ?_)
          all_goals first | omega | (refine st_c ?_ ?_ <;> omega) | (refine congrArg (fun x => x * f) (st_c ?_ ?_) <;> omega) | skip
  refine L18 _ _ _ _ (Nat.lt_succ_self _) ?_ ?_
  · omega
  · funext q k
    simp only [up, cpL, TB, TI, TC, TR, Int.add_zero, and_true, true_and]
    simp only [TB, TI, TC, TR] at *
    repeat' first | refine ite_l (fun h => ?_) (fun h => ?_) | refine ite_r (fun h => ?_) (fun h => ?_)
    all_goals first | omega | (refine st_c ?_ ?_ <;> omega) | (refine congrArg (fun x => x * f) (st_c ?_ ?_) <;> omega) | skip

set_option maxHeartbeats 4000000 in
set_option maxRecDepth 100000 in
theorem k_X4_addWorker (E0 : EV) {ad : Int → Nat} {σ : St} {t x : Int} (ht : 0 ≤ t ∧ t < 6) (hm : 0 ≤ σ (TB t) 0 ∧ σ (TB t) 0 < 7) (hn : 0 ≤ σ (TB t) 1 ∧ σ (TB t) 1 ≤ 7) (hx : 0 ≤ x ∧ x ≤ 9999) : MGE E0 yX4_addWorker wsX4_addWorker 0 0 ad σ [.ref (ad (TB t)), .int (iI x)] (PW (adW σ t x (σ (TB t) 1) 1)) := by
  refine MGE.of (cc := cX4_addWorker) (maxL := 3) (ret := none) (own := RX4) [some (.ref (ad (TB t))), some (.int (iI x)), none] (by decide +kernel) rfl rfl (Nat.le_of_ble_eq_true rfl) rfl rfl (fun E X hr => ?_)
  have i4 : ∀ w ∈ wsX40, w ∈ wsX4_addWorker := by decide +kernel
  refine g_rg (fun hR0 => ?_)
  refine g_aload0 X dX4_addWorker_0 ?_
  refine gf_4_idleCosts X (by omega) i4 (by decide +kernel) dX4_addWorker_1 ?_
  refine g_aload0 X dX4_addWorker_4 ?_
  refine gf_4_workers X (by omega) i4 (by decide +kernel) dX4_addWorker_5 ?_
  refine g_iload1 X dX4_addWorker_8 ?_
  refine g_iast X (ia_TI (by omega) (by omega)) (by first | exact hR0 _ _ | assumption | (unfold InR; omega)) dX4_addWorker_9 ?_
  refine g_rg (fun hR9 => ?_)
  refine g_iconst X dX4_addWorker_10 ?_
  refine g_istore2 X dX4_addWorker_11 (by decide) (by first | exact Or.inl rfl | exact Or.inr ⟨_, rfl, rfl⟩) ?_
  have L12 : ∀ (n12 : Nat) (j : Int) (σ1 : St), (σ (TB t) 1 - j).toNat < n12 → (0 ≤ j ∧ j ≤ σ (TB t) 1) → (σ1 = adW σ t x j 0) → WG E ad 3 σ1 12 [some (.ref (ad (TB t))), some (.int (iI x)), some (.int (iI j))] [] := by
    intro n12
    induction n12 with
    | zero => intro j σ1 hn; exact absurd hn (Nat.not_lt_zero _)
    | succ n12 ih12 =>
      intro j σ1 hn12 hj hs
      refine g_rg (fun hRL12 => ?_)
      have e0 : σ1 (TB t) 0 = σ (TB t) 0 := by rw [hs]; unfold adW; rw [if_pos ⟨rfl, rfl⟩]; omega
      have e1 : σ1 (TB t) 1 = σ (TB t) 1 := by
        rw [hs]
        simp only [adW, TB, TI, TR] at *
        repeat' refine ite_l (fun h => ?_) (fun h => ?_)
        all_goals omega
      refine g_iload2 X dX4_addWorker_12 ?_
      refine g_aload0 X dX4_addWorker_13 ?_
      refine gf_4_tasks X (by omega) i4 (by decide +kernel) dX4_addWorker_14 ?_
      refine g_icmp_ge (tgt := 38) X (by first | exact hRL12 _ _ | exact hR9 _ _ | exact hR0 _ _ | assumption | (unfold InR; omega)) (by first | exact hRL12 _ _ | exact hR9 _ _ | exact hR0 _ _ | assumption | (unfold InR; omega)) dX4_addWorker_17 (by decide) (fun h17 => ?_) (fun h17 => ?_)
      · skip
        refine g_aload0 X dX4_addWorker_38 ?_
        refine g_dup X dX4_addWorker_39 rfl ?_
        refine gf_4_workers X (by omega) i4 (by decide +kernel) dX4_addWorker_40 ?_
        refine g_iconst X dX4_addWorker_43 ?_
        refine g_iadd X dX4_addWorker_44 ?_
        refine gp_4_workers X (by omega) i4 (by decide +kernel) (by first | exact hRL12 _ _ | exact hR9 _ _ | exact hR0 _ _ | assumption | (unfold InR; omega)) dX4_addWorker_45 ?_
        refine g_rg (fun hR45 => ?_)
        exact g_vretW X hr (by
    rw [e0]
    rw [hs]
    funext q k
    simp only [up, adW, TB, TI, TC, TR, Int.add_zero, and_true, true_and]
    simp only [TB, TI, TC, TR] at *
    repeat' first | refine ite_l (fun h => ?_) (fun h => ?_) | refine ite_r (fun h => ?_) (fun h => ?_)
    all_goals first | omega | (refine st_c ?_ ?_ <;> omega) | (refine congrArg (fun x => x * f) (st_c ?_ ?_) <;> omega) | skip) dX4_addWorker_48
      · skip
        refine g_aload0 X dX4_addWorker_20 ?_
        refine gf_4_costs X (by omega) i4 (by decide +kernel) dX4_addWorker_21 ?_
        refine g_aload0 X dX4_addWorker_24 ?_
        refine gf_4_workers X (by omega) i4 (by decide +kernel) dX4_addWorker_25 ?_
        refine g_aald_TC X (by omega) (by omega) dX4_addWorker_28 ?_
        refine g_iload2 X dX4_addWorker_29 ?_
        refine g_iconst X dX4_addWorker_30 ?_
        refine g_iast X (ia_TR (by omega) (by omega) (by omega)) (by first | exact hRL12 _ _ | exact hR9 _ _ | exact hR0 _ _ | assumption | (unfold InR; omega)) dX4_addWorker_31 ?_
        refine g_rg (fun hR31 => ?_)
        refine g_iinc2 X dX4_addWorker_32 (by decide) (by first | exact Or.inl rfl | exact Or.inr ⟨_, rfl, rfl⟩) ?_
        refine g_goto (tgt := 12) X dX4_addWorker_35 (by decide) ?_
        refine ih12 _ _ (by omega) ?_ ?_
        · omega
        · rw [hs]
          funext q k
          simp only [up, adW, TB, TI, TC, TR, Int.add_zero, and_true, true_and]
          simp only [TB, TI, TC, TR] at *
          repeat' first | refine ite_l (fun h => ?_) (fun h => ?_) | refine ite_r (fun h => ?_) (fun h => ?_)
          all_goals first | omega | (refine st_c ?_ ?_ <;> omega) | (refine congrArg (fun x => x * f) (st_c ?_ ?_) <;> omega) | skip
  refine L12 _ _ _ (Nat.lt_succ_self _) ?_ ?_
  · omega
  · funext q k
    simp only [up, adW, TB, TI, TC, TR, Int.add_zero, and_true, true_and]
    simp only [TB, TI, TC, TR] at *
    repeat' first | refine ite_l (fun h => ?_) (fun h => ?_) | refine ite_r (fun h => ?_) (fun h => ?_)
    all_goals first | omega | (refine st_c ?_ ?_ <;> omega) | (refine congrArg (fun x => x * f) (st_c ?_ ?_) <;> omega) | skip

set_option maxHeartbeats 4000000 in
set_option maxRecDepth 100000 in
theorem k_X4_addTask (E0 : EV) {ad : Int → Nat} {σ : St} {t : Int} (ht : 0 ≤ t ∧ t < 6) (hm : 0 ≤ σ (TB t) 0 ∧ σ (TB t) 0 ≤ 7) (hn : 0 ≤ σ (TB t) 1 ∧ σ (TB t) 1 < 7) : MGE E0 yX4_addTask wsX4_addTask 0 0 ad σ [.ref (ad (TB t))] (PW (adT σ t (σ (TB t) 0) 1)) := by
  refine MGE.of (cc := cX4_addTask) (maxL := 2) (ret := none) (own := RX4) [some (.ref (ad (TB t))), none] (by decide +kernel) rfl rfl (Nat.le_of_ble_eq_true rfl) rfl rfl (fun E X hr => ?_)
  have i4 : ∀ w ∈ wsX40, w ∈ wsX4_addTask := by decide +kernel
  refine g_rg (fun hR0 => ?_)
  refine g_iconst X dX4_addTask_0 ?_
  refine g_istore1 X dX4_addTask_1 (by decide) (by first | exact Or.inl rfl | exact Or.inr ⟨_, rfl, rfl⟩) ?_
  have L2 : ∀ (n2 : Nat) (j : Int) (σ1 : St), (σ (TB t) 0 - j).toNat < n2 → (0 ≤ j ∧ j ≤ σ (TB t) 0) → (σ1 = adT σ t j 0) → WG E ad 2 σ1 2 [some (.ref (ad (TB t))), some (.int (iI j))] [] := by
    intro n2
    induction n2 with
    | zero => intro j σ1 hn; exact absurd hn (Nat.not_lt_zero _)
    | succ n2 ih2 =>
      intro j σ1 hn2 hj hs
      refine g_rg (fun hRL2 => ?_)
      have e0 : σ1 (TB t) 0 = σ (TB t) 0 := by rw [hs]; unfold adT TB TR; rw [if_neg (by omega), if_neg (by omega)]
      have e1 : σ1 (TB t) 1 = σ (TB t) 1 := by rw [hs]; unfold adT; rw [if_pos ⟨rfl, rfl⟩]; omega
      refine g_iload1 X dX4_addTask_2 ?_
      refine g_aload0 X dX4_addTask_3 ?_
      refine gf_4_workers X (by omega) i4 (by decide +kernel) dX4_addTask_4 ?_
      refine g_icmp_ge (tgt := 28) X (by first | exact hRL2 _ _ | exact hR0 _ _ | assumption | (unfold InR; omega)) (by first | exact hRL2 _ _ | exact hR0 _ _ | assumption | (unfold InR; omega)) dX4_addTask_7 (by decide) (fun h7 => ?_) (fun h7 => ?_)
      · skip
        refine g_aload0 X dX4_addTask_28 ?_
        refine g_dup X dX4_addTask_29 rfl ?_
        refine gf_4_tasks X (by omega) i4 (by decide +kernel) dX4_addTask_30 ?_
        refine g_iconst X dX4_addTask_33 ?_
        refine g_iadd X dX4_addTask_34 ?_
        refine gp_4_tasks X (by omega) i4 (by decide +kernel) (by first | exact hRL2 _ _ | exact hR0 _ _ | assumption | (unfold InR; omega)) dX4_addTask_35 ?_
        refine g_rg (fun hR35 => ?_)
        exact g_vretW X hr (by
    rw [e1, hs, show j = σ (TB t) 0 by omega]
    funext q k
    simp only [up, adT, TB, TI, TC, TR, Int.add_zero, and_true, true_and]
    simp only [TB, TI, TC, TR] at *
    repeat' first | refine ite_l (fun h => ?_) (fun h => ?_) | refine ite_r (fun h => ?_) (fun h => ?_)
    all_goals first | omega | (refine st_c ?_ ?_ <;> omega) | (refine congrArg (fun x => x * f) (st_c ?_ ?_) <;> omega) | skip) dX4_addTask_38
      · skip
        refine g_aload0 X dX4_addTask_10 ?_
        refine gf_4_costs X (by omega) i4 (by decide +kernel) dX4_addTask_11 ?_
        refine g_iload1 X dX4_addTask_14 ?_
        refine g_aald_TC X (by omega) (by omega) dX4_addTask_15 ?_
        refine g_aload0 X dX4_addTask_16 ?_
        refine gf_4_tasks X (by omega) i4 (by decide +kernel) dX4_addTask_17 ?_
        refine g_iconst X dX4_addTask_20 ?_
        refine g_iast X (ia_TR (by omega) (by omega) (by omega)) (by first | exact hRL2 _ _ | exact hR0 _ _ | assumption | (unfold InR; omega)) dX4_addTask_21 ?_
        refine g_rg (fun hR21 => ?_)
        refine g_iinc1 X dX4_addTask_22 (by decide) (by first | exact Or.inl rfl | exact Or.inr ⟨_, rfl, rfl⟩) ?_
        refine g_goto (tgt := 2) X dX4_addTask_25 (by decide) ?_
        refine ih2 _ _ (by omega) ?_ ?_
        · omega
        · rw [e1, hs]
          funext q k
          simp only [up, adT, TB, TI, TC, TR, Int.add_zero, and_true, true_and]
          simp only [TB, TI, TC, TR] at *
          repeat' first | refine ite_l (fun h => ?_) (fun h => ?_) | refine ite_r (fun h => ?_) (fun h => ?_)
          all_goals first | omega | (refine st_c ?_ ?_ <;> omega) | (refine congrArg (fun x => x * f) (st_c ?_ ?_) <;> omega) | skip
  refine L2 _ _ _ (Nat.lt_succ_self _) ?_ ?_
  · omega
  · funext q k
    simp only [up, adT, TB, TI, TC, TR, Int.add_zero, and_true, true_and]
    simp only [TB, TI, TC, TR] at *
    repeat' first | refine ite_l (fun h => ?_) (fun h => ?_) | refine ite_r (fun h => ?_) (fun h => ?_)
    all_goals first | omega | (refine st_c ?_ ?_ <;> omega) | (refine congrArg (fun x => x * f) (st_c ?_ ?_) <;> omega) | skip

set_option maxHeartbeats 4000000 in
set_option maxRecDepth 100000 in
theorem k_X4_removeWorker (E0 : EV) {ad : Int → Nat} {σ : St} {t d : Int} (ht : 0 ≤ t ∧ t < 6) (hm : 0 ≤ σ (TB t) 0 ∧ σ (TB t) 0 ≤ 7) (hn : 0 ≤ σ (TB t) 1 ∧ σ (TB t) 1 ≤ 7) (hd : 0 ≤ d ∧ d < σ (TB t) 0) : MGE E0 yX4_removeWorker wsX4_removeWorker 0 0 ad σ [.ref (ad (TB t)), .int (iI d)] (PW (rmW σ t d (σ (TB t) 0 - 1) (σ (TB t) 0 - 1) 0)) := by
  refine MGE.of (cc := cX4_removeWorker) (maxL := 4) (ret := none) (own := RX4) [some (.ref (ad (TB t))), some (.int (iI d)), none, none] (by decide +kernel) rfl rfl (Nat.le_of_ble_eq_true rfl) rfl rfl (fun E X hr => ?_)
  have i4 : ∀ w ∈ wsX40, w ∈ wsX4_removeWorker := by decide +kernel
  refine g_rg (fun hR0 => ?_)
  refine g_aload0 X dX4_removeWorker_0 ?_
  refine g_dup X dX4_removeWorker_1 rfl ?_
  refine gf_4_workers X (by omega) i4 (by decide +kernel) dX4_removeWorker_2 ?_
  refine g_iconst X dX4_removeWorker_5 ?_
  refine g_isub X dX4_removeWorker_6 ?_
  refine gp_4_workers X (by omega) i4 (by decide +kernel) (by first | exact hR0 _ _ | assumption | (unfold InR; omega)) dX4_removeWorker_7 ?_
  refine g_rg (fun hR7 => ?_)
  refine g_iload1 X dX4_removeWorker_10 ?_
  refine g_istore2 X dX4_removeWorker_11 (by decide) (by first | exact Or.inl rfl | exact Or.inr ⟨_, rfl, rfl⟩) ?_
  have L12 : ∀ (n12 : Nat) (w : Int) (σ1 : St) (u3 : Option Value), (σ (TB t) 0 - 1 - w).toNat < n12 → (d ≤ w ∧ w ≤ σ (TB t) 0 - 1) → (σ1 = rmW σ t d w w 0) → WG E ad 4 σ1 12 [some (.ref (ad (TB t))), some (.int (iI d)), some (.int (iI w)), u3] [] := by
    intro n12
    induction n12 with
    | zero => intro w σ1 u3 hn; exact absurd hn (Nat.not_lt_zero _)
    | succ n12 ih12 =>
      intro w σ1 u3 hn12 hw hs
      refine g_rg (fun hRL12 => ?_)
      have e0 : σ1 (TB t) 0 = σ (TB t) 0 - 1 := by rw [hs]; unfold rmW; rw [if_pos ⟨rfl, rfl⟩]
      have e1 : σ1 (TB t) 1 = σ (TB t) 1 := by rw [hs]; unfold rmW TB TI TR; rw [if_neg (by omega), if_neg (by omega), if_neg (by omega), if_neg (by omega)]
      refine g_iload2 X dX4_removeWorker_12 ?_
      refine g_aload0 X dX4_removeWorker_13 ?_
      refine gf_4_workers X (by omega) i4 (by decide +kernel) dX4_removeWorker_14 ?_
      refine g_icmp_ge (tgt := 74) X (by first | exact hRL12 _ _ | exact hR7 _ _ | exact hR0 _ _ | assumption | (unfold InR; omega)) (by first | exact hRL12 _ _ | exact hR7 _ _ | exact hR0 _ _ | assumption | (unfold InR; omega)) dX4_removeWorker_17 (by decide) (fun h17 => ?_) (fun h17 => ?_)
      · skip
        exact g_vretW X hr (by rw [hs, show w = σ (TB t) 0 - 1 by omega]) dX4_removeWorker_74
      · skip
        refine g_aload0 X dX4_removeWorker_20 ?_
        refine gf_4_idleCosts X (by omega) i4 (by decide +kernel) dX4_removeWorker_21 ?_
        refine g_iload2 X dX4_removeWorker_24 ?_
        refine g_aload0 X dX4_removeWorker_25 ?_
        refine gf_4_idleCosts X (by omega) i4 (by decide +kernel) dX4_removeWorker_26 ?_
        refine g_iload2 X dX4_removeWorker_29 ?_
        refine g_iconst X dX4_removeWorker_30 ?_
        refine g_iadd X dX4_removeWorker_31 ?_
        refine g_iald X (ia_TI (by omega) (by omega)) dX4_removeWorker_32 ?_
        refine g_iast X (ia_TI (by omega) (by omega)) (by first | exact hRL12 _ _ | exact hR7 _ _ | exact hR0 _ _ | assumption | (unfold InR; omega)) dX4_removeWorker_33 ?_
        refine g_rg (fun hR33 => ?_)
        refine g_iconst X dX4_removeWorker_34 ?_
        refine g_istore3 X dX4_removeWorker_35 (by decide) (by first | exact Or.inl rfl | exact Or.inr ⟨_, rfl, rfl⟩) ?_
        have L36 : ∀ (n36 : Nat) (j : Int) (σ2 : St), (σ (TB t) 1 - j).toNat < n36 → (0 ≤ j ∧ j ≤ σ (TB t) 1) → (σ2 = rmW σ t d w (w + 1) j) → WG E ad 4 σ2 36 [some (.ref (ad (TB t))), some (.int (iI d)), some (.int (iI w)), some (.int (iI j))] [] := by
          intro n36
          induction n36 with
          | zero => intro j σ2 hn; exact absurd hn (Nat.not_lt_zero _)
          | succ n36 ih36 =>
            intro j σ2 hn36 hj hs2
            refine g_rg (fun hRL36 => ?_)
            have f0 : σ2 (TB t) 0 = σ (TB t) 0 - 1 := by rw [hs2]; unfold rmW; rw [if_pos ⟨rfl, rfl⟩]
            have f1 : σ2 (TB t) 1 = σ (TB t) 1 := by rw [hs2]; unfold rmW TB TI TR; rw [if_neg (by omega), if_neg (by omega), if_neg (by omega), if_neg (by omega)]
            refine g_iload3 X dX4_removeWorker_36 ?_
            refine g_aload0 X dX4_removeWorker_37 ?_
            refine gf_4_tasks X (by omega) i4 (by decide +kernel) dX4_removeWorker_38 ?_
            refine g_icmp_ge (tgt := 68) X (by first | exact hRL36 _ _ | exact hR33 _ _ | exact hRL12 _ _ | exact hR7 _ _ | exact hR0 _ _ | assumption | (unfold InR; omega)) (by first | exact hRL36 _ _ | exact hR33 _ _ | exact hRL12 _ _ | exact hR7 _ _ | exact hR0 _ _ | assumption | (unfold InR; omega)) dX4_removeWorker_41 (by decide) (fun h41 => ?_) (fun h41 => ?_)
            · skip
              refine g_iinc2 X dX4_removeWorker_68 (by decide) (by first | exact Or.inl rfl | exact Or.inr ⟨_, rfl, rfl⟩) ?_
              refine g_goto (tgt := 12) X dX4_removeWorker_71 (by decide) ?_
              refine ih12 _ _ _ (by omega) ?_ ?_
              · omega
              · rw [hs2, show j = σ (TB t) 1 by omega]
                funext q k
                simp only [up, rmW, TB, TI, TC, TR, Int.add_zero, and_true, true_and]
                simp only [TB, TI, TC, TR] at *
                repeat' first | refine ite_l (fun h => ?_) (fun h => ?_) | refine ite_r (fun h => ?_) (fun h => ?_)
                all_goals first | omega | (refine st_c ?_ ?_ <;> omega) | (refine congrArg (fun x => x * f) (st_c ?_ ?_) <;> omega) | skip
            · skip
              refine g_aload0 X dX4_removeWorker_44 ?_
              refine gf_4_costs X (by omega) i4 (by decide +kernel) dX4_removeWorker_45 ?_
              refine g_iload2 X dX4_removeWorker_48 ?_
              refine g_aald_TC X (by omega) (by omega) dX4_removeWorker_49 ?_
              refine g_iload3 X dX4_removeWorker_50 ?_
              refine g_aload0 X dX4_removeWorker_51 ?_
              refine gf_4_costs X (by omega) i4 (by decide +kernel) dX4_removeWorker_52 ?_
              refine g_iload2 X dX4_removeWorker_55 ?_
              refine g_iconst X dX4_removeWorker_56 ?_
              refine g_iadd X dX4_removeWorker_57 ?_
              refine g_aald_TC X (by omega) (by omega) dX4_removeWorker_58 ?_
              refine g_iload3 X dX4_removeWorker_59 ?_
              refine g_iald X (ia_TR (by omega) (by omega) (by omega)) dX4_removeWorker_60 ?_
              refine g_iast X (ia_TR (by omega) (by omega) (by omega)) (by first | exact hRL36 _ _ | exact hR33 _ _ | exact hRL12 _ _ | exact hR7 _ _ | exact hR0 _ _ | assumption | (unfold InR; omega)) dX4_removeWorker_61 ?_
              refine g_rg (fun hR61 => ?_)
              refine g_iinc3 X dX4_removeWorker_62 (by decide) (by first | exact Or.inl rfl | exact Or.inr ⟨_, rfl, rfl⟩) ?_
              refine g_goto (tgt := 36) X dX4_removeWorker_65 (by decide) ?_
              refine ih36 _ _ (by omega) ?_ ?_
              · omega
              · rw [hs2]
                funext q k
                simp only [up, rmW, TB, TI, TC, TR, Int.add_zero, and_true, true_and]
                simp only [TB, TI, TC, TR] at *
                repeat' first | refine ite_l (fun h => ?_) (fun h => ?_) | refine ite_r (fun h => ?_) (fun h => ?_)
                all_goals first | omega | (refine st_c ?_ ?_ <;> omega) | (refine congrArg (fun x => x * f) (st_c ?_ ?_) <;> omega) | skip
        refine L36 _ _ _ (Nat.lt_succ_self _) ?_ ?_
        · omega
        · rw [hs]
          funext q k
          simp only [up, rmW, TB, TI, TC, TR, Int.add_zero, and_true, true_and]
          simp only [TB, TI, TC, TR] at *
          repeat' first | refine ite_l (fun h => ?_) (fun h => ?_) | refine ite_r (fun h => ?_) (fun h => ?_)
          all_goals first | omega | (refine st_c ?_ ?_ <;> omega) | (refine congrArg (fun x => x * f) (st_c ?_ ?_) <;> omega) | skip
  refine L12 _ _ _ _ (Nat.lt_succ_self _) ?_ ?_
  · omega
  · funext q k
    simp only [up, rmW, TB, TI, TC, TR, Int.add_zero, and_true, true_and]
    simp only [TB, TI, TC, TR] at *
    repeat' first | refine ite_l (fun h => ?_) (fun h => ?_) | refine ite_r (fun h => ?_) (fun h => ?_)
    all_goals first | omega | (refine st_c ?_ ?_ <;> omega) | (refine congrArg (fun x => x * f) (st_c ?_ ?_) <;> omega) | skip

set_option maxHeartbeats 4000000 in
set_option maxRecDepth 100000 in
theorem k_X4_removeTask (E0 : EV) {ad : Int → Nat} {σ : St} {t d : Int} (ht : 0 ≤ t ∧ t < 6) (hm : 0 ≤ σ (TB t) 0 ∧ σ (TB t) 0 ≤ 7) (hn : 0 ≤ σ (TB t) 1 ∧ σ (TB t) 1 ≤ 7) (hd : 0 ≤ d ∧ d < σ (TB t) 1) : MGE E0 yX4_removeTask wsX4_removeTask 0 0 ad σ [.ref (ad (TB t)), .int (iI d)] (PW (rmT σ t d (σ (TB t) 0) d)) := by
  refine MGE.of (cc := cX4_removeTask) (maxL := 4) (ret := none) (own := RX4) [some (.ref (ad (TB t))), some (.int (iI d)), none, none] (by decide +kernel) rfl rfl (Nat.le_of_ble_eq_true rfl) rfl rfl (fun E X hr => ?_)
  have i4 : ∀ w ∈ wsX40, w ∈ wsX4_removeTask := by decide +kernel
  refine g_rg (fun hR0 => ?_)
  refine g_aload0 X dX4_removeTask_0 ?_
  refine g_dup X dX4_removeTask_1 rfl ?_
  refine gf_4_tasks X (by omega) i4 (by decide +kernel) dX4_removeTask_2 ?_
  refine g_iconst X dX4_removeTask_5 ?_
  refine g_isub X dX4_removeTask_6 ?_
  refine gp_4_tasks X (by omega) i4 (by decide +kernel) (by first | exact hR0 _ _ | assumption | (unfold InR; omega)) dX4_removeTask_7 ?_
  refine g_rg (fun hR7 => ?_)
  refine g_iconst X dX4_removeTask_10 ?_
  refine g_istore2 X dX4_removeTask_11 (by decide) (by first | exact Or.inl rfl | exact Or.inr ⟨_, rfl, rfl⟩) ?_
  have L12 : ∀ (n12 : Nat) (w : Int) (σ1 : St) (u3 : Option Value), (σ (TB t) 0 - w).toNat < n12 → (0 ≤ w ∧ w ≤ σ (TB t) 0) → (σ1 = rmT σ t d w d) → WG E ad 4 σ1 12 [some (.ref (ad (TB t))), some (.int (iI d)), some (.int (iI w)), u3] [] := by
    intro n12
    induction n12 with
    | zero => intro w σ1 u3 hn; exact absurd hn (Nat.not_lt_zero _)
    | succ n12 ih12 =>
      intro w σ1 u3 hn12 hw hs
      refine g_rg (fun hRL12 => ?_)
      have e1 : σ1 (TB t) 1 = σ (TB t) 1 - 1 := by rw [hs]; unfold rmT; rw [if_pos ⟨rfl, rfl⟩]
      have e0 : σ1 (TB t) 0 = σ (TB t) 0 := by rw [hs]; unfold rmT TB TR; rw [if_neg (by omega), if_neg (by omega), if_neg (by omega)]
      refine g_iload2 X dX4_removeTask_12 ?_
      refine g_aload0 X dX4_removeTask_13 ?_
      refine gf_4_workers X (by omega) i4 (by decide +kernel) dX4_removeTask_14 ?_
      refine g_icmp_ge (tgt := 60) X (by first | exact hRL12 _ _ | exact hR7 _ _ | exact hR0 _ _ | assumption | (unfold InR; omega)) (by first | exact hRL12 _ _ | exact hR7 _ _ | exact hR0 _ _ | assumption | (unfold InR; omega)) dX4_removeTask_17 (by decide) (fun h17 => ?_) (fun h17 => ?_)
      · skip
        exact g_vretW X hr (by rw [hs, show w = σ (TB t) 0 by omega]) dX4_removeTask_60
      · skip
        refine g_iload1 X dX4_removeTask_20 ?_
        refine g_istore3 X dX4_removeTask_21 (by decide) (by first | exact Or.inl rfl | exact Or.inr ⟨_, rfl, rfl⟩) ?_
        have L22 : ∀ (n22 : Nat) (j : Int) (σ2 : St), (σ (TB t) 1 - 1 - j).toNat < n22 → (d ≤ j ∧ j ≤ σ (TB t) 1 - 1) → (σ2 = rmT σ t d w j) → WG E ad 4 σ2 22 [some (.ref (ad (TB t))), some (.int (iI d)), some (.int (iI w)), some (.int (iI j))] [] := by
          intro n22
          induction n22 with
          | zero => intro j σ2 hn; exact absurd hn (Nat.not_lt_zero _)
          | succ n22 ih22 =>
            intro j σ2 hn22 hj hs2
            refine g_rg (fun hRL22 => ?_)
            have f1 : σ2 (TB t) 1 = σ (TB t) 1 - 1 := by rw [hs2]; unfold rmT; rw [if_pos ⟨rfl, rfl⟩]
            have f0 : σ2 (TB t) 0 = σ (TB t) 0 := by rw [hs2]; unfold rmT TB TR; rw [if_neg (by omega), if_neg (by omega), if_neg (by omega)]
            refine g_iload3 X dX4_removeTask_22 ?_
            refine g_aload0 X dX4_removeTask_23 ?_
            refine gf_4_tasks X (by omega) i4 (by decide +kernel) dX4_removeTask_24 ?_
            refine g_icmp_ge (tgt := 54) X (by first | exact hRL22 _ _ | exact hRL12 _ _ | exact hR7 _ _ | exact hR0 _ _ | assumption | (unfold InR; omega)) (by first | exact hRL22 _ _ | exact hRL12 _ _ | exact hR7 _ _ | exact hR0 _ _ | assumption | (unfold InR; omega)) dX4_removeTask_27 (by decide) (fun h27 => ?_) (fun h27 => ?_)
            · skip
              refine g_iinc2 X dX4_removeTask_54 (by decide) (by first | exact Or.inl rfl | exact Or.inr ⟨_, rfl, rfl⟩) ?_
              refine g_goto (tgt := 12) X dX4_removeTask_57 (by decide) ?_
              refine ih12 _ _ _ (by omega) ?_ ?_
              · omega
              · rw [hs2, show j = σ (TB t) 1 - 1 by omega]
                funext q k
                simp only [up, rmT, TB, TI, TC, TR, Int.add_zero, and_true, true_and]
                simp only [TB, TI, TC, TR] at *
                repeat' first | refine ite_l (fun h => ?_) (fun h => ?_) | refine ite_r (fun h => ?_) (fun h => ?_)
                all_goals first | omega | (refine st_c ?_ ?_ <;> omega) | (refine congrArg (fun x => x * f) (st_c ?_ ?_) <;> omega) | skip
            · skip
              refine g_aload0 X dX4_removeTask_30 ?_
              refine gf_4_costs X (by omega) i4 (by decide +kernel) dX4_removeTask_31 ?_
              refine g_iload2 X dX4_removeTask_34 ?_
              refine g_aald_TC X (by omega) (by omega) dX4_removeTask_35 ?_
              refine g_iload3 X dX4_removeTask_36 ?_
              refine g_aload0 X dX4_removeTask_37 ?_
              refine gf_4_costs X (by omega) i4 (by decide +kernel) dX4_removeTask_38 ?_
              refine g_iload2 X dX4_removeTask_41 ?_
              refine g_aald_TC X (by omega) (by omega) dX4_removeTask_42 ?_
              refine g_iload3 X dX4_removeTask_43 ?_
              refine g_iconst X dX4_removeTask_44 ?_
              refine g_iadd X dX4_removeTask_45 ?_
              refine g_iald X (ia_TR (by omega) (by omega) (by omega)) dX4_removeTask_46 ?_
              refine g_iast X (ia_TR (by omega) (by omega) (by omega)) (by first | exact hRL22 _ _ | exact hRL12 _ _ | exact hR7 _ _ | exact hR0 _ _ | assumption | (unfold InR; omega)) dX4_removeTask_47 ?_
              refine g_rg (fun hR47 => ?_)
              refine g_iinc3 X dX4_removeTask_48 (by decide) (by first | exact Or.inl rfl | exact Or.inr ⟨_, rfl, rfl⟩) ?_
              refine g_goto (tgt := 22) X dX4_removeTask_51 (by decide) ?_
              refine ih22 _ _ (by omega) ?_ ?_
              · omega
              · rw [hs2]
                funext q k
                simp only [up, rmT, TB, TI, TC, TR, Int.add_zero, and_true, true_and]
                simp only [TB, TI, TC, TR] at *
                repeat' first | refine ite_l (fun h => ?_) (fun h => ?_) | refine ite_r (fun h => ?_) (fun h => ?_)
                all_goals first | omega | (refine st_c ?_ ?_ <;> omega) | (refine congrArg (fun x => x * f) (st_c ?_ ?_) <;> omega) | skip
        refine L22 _ _ _ (Nat.lt_succ_self _) ?_ ?_
        · omega
        · exact hs
  refine L12 _ _ _ _ (Nat.lt_succ_self _) ?_ ?_
  · omega
  · funext q k
    simp only [up, rmT, TB, TI, TC, TR, Int.add_zero, and_true, true_and]
    simp only [TB, TI, TC, TR] at *
    repeat' first | refine ite_l (fun h => ?_) (fun h => ?_) | refine ite_r (fun h => ?_) (fun h => ?_)
    all_goals first | omega | (refine st_c ?_ ?_ <;> omega) | (refine congrArg (fun x => x * f) (st_c ?_ ?_) <;> omega) | skip

set_option maxHeartbeats 4000000 in
set_option maxRecDepth 100000 in
theorem k_X4_multiplyCosts (E0 : EV) {ad : Int → Nat} {σ : St} {t w f : Int} (ht : 0 ≤ t ∧ t < 6) (hw : 0 ≤ w ∧ w < 7) (hn : 0 ≤ σ (TB t) 1 ∧ σ (TB t) 1 ≤ 7) (hi0 : 0 ≤ σ (TI t) w * f ∧ σ (TI t) w * f ≤ 9999) (hc : ∀ j, 0 ≤ j → j < σ (TB t) 1 → σ (TR t w) j ≠ -1 → 0 ≤ σ (TR t w) j * f ∧ σ (TR t w) j * f ≤ 9999) : MGE E0 yX4_multiplyCosts wsX4_multiplyCosts 1 22 ad σ [.ref (ad (TB t)), .int (iI w), .int (iI f)] (PW (muC σ t w f (σ (TB t) 1))) := by
  refine MGE.of (cc := cX4_multiplyCosts) (maxL := 4) (ret := none) (own := RX4) [some (.ref (ad (TB t))), some (.int (iI w)), some (.int (iI f)), none] (by decide +kernel) rfl rfl (Nat.le_of_ble_eq_true rfl) rfl rfl (fun E X hr => ?_)
  have i4 : ∀ w ∈ wsX40, w ∈ wsX4_multiplyCosts := by decide +kernel
  refine g_rg (fun hR0 => ?_)
  refine g_aload0 X dX4_multiplyCosts_0 ?_
  refine gf_4_idleCosts X (by omega) i4 (by decide +kernel) dX4_multiplyCosts_1 ?_
  refine g_iload1 X dX4_multiplyCosts_4 ?_
  refine g_dup2 X dX4_multiplyCosts_5 rfl rfl ?_
  refine g_iald X (ia_TI (by omega) (by omega)) dX4_multiplyCosts_6 ?_
  refine g_iload2 X dX4_multiplyCosts_7 ?_
  refine g_imul X dX4_multiplyCosts_8 ?_
  refine g_iast X (ia_TI (by omega) (by omega)) (by first | exact hR0 _ _ | assumption | (unfold InR; omega)) dX4_multiplyCosts_9 ?_
  refine g_rg (fun hR9 => ?_)
  refine g_iconst X dX4_multiplyCosts_10 ?_
  refine g_istore3 X dX4_multiplyCosts_11 (by decide) (by first | exact Or.inl rfl | exact Or.inr ⟨_, rfl, rfl⟩) ?_
  have L12 : ∀ (n12 : Nat) (j : Int) (σ1 : St), (σ (TB t) 1 - j).toNat < n12 → (0 ≤ j ∧ j ≤ σ (TB t) 1) → (σ1 = muC σ t w f j) → WG E ad 4 σ1 12 [some (.ref (ad (TB t))), some (.int (iI w)), some (.int (iI f)), some (.int (iI j))] [] := by
    intro n12
    induction n12 with
    | zero => intro j σ1 hn; exact absurd hn (Nat.not_lt_zero _)
    | succ n12 ih12 =>
      intro j σ1 hn12 hj hs
      refine g_rg (fun hRL12 => ?_)
      have e1 : σ1 (TB t) 1 = σ (TB t) 1 := by rw [hs]; unfold muC TB TI TR; rw [if_neg (by omega), if_neg (by omega)]
      have e2 : σ1 (TR t w) j = σ (TR t w) j := by rw [hs]; unfold muC TI TR; rw [if_neg (by omega), if_neg (by omega)]
      refine g_iload3 X dX4_multiplyCosts_12 ?_
      refine g_aload0 X dX4_multiplyCosts_13 ?_
      refine gf_4_tasks X (by omega) i4 (by decide +kernel) dX4_multiplyCosts_14 ?_
      refine g_icmp_ge (tgt := 47) X (by first | exact hRL12 _ _ | exact hR9 _ _ | exact hR0 _ _ | assumption | (unfold InR; omega)) (by first | exact hRL12 _ _ | exact hR9 _ _ | exact hR0 _ _ | assumption | (unfold InR; omega)) dX4_multiplyCosts_17 (by decide) (fun h17 => ?_) (fun h17 => ?_)
      · skip
        exact g_vretW X hr (by rw [hs, show j = σ (TB t) 1 by omega]) dX4_multiplyCosts_47
      · skip
        refine g_aload0 X dX4_multiplyCosts_20 ?_
        refine g_iload1 X dX4_multiplyCosts_21 ?_
        refine g_iload3 X dX4_multiplyCosts_22 ?_
        refine g_F2 X (k_X4_isBarred E (by omega) (by omega) (by omega)) gX4_multiplyCosts_X4_isBarred rfl (by decide +kernel) (by decide) (ob_TB (by omega)) (Nat.le_of_ble_eq_true rfl) dX4_multiplyCosts_23 (fun hz23 => ?_)
        refine g_rg (fun hR23 => ?_)
        have hb1 := isB_01 σ1 t w j
        refine g_if_ne (tgt := 41) X (by first | exact hR23 _ _ | exact hRL12 _ _ | exact hR9 _ _ | exact hR0 _ _ | assumption | (unfold InR; omega)) dX4_multiplyCosts_26 (by decide) (fun h26 => ?_) (fun h26 => ?_)
        · skip
          refine g_iinc3 X dX4_multiplyCosts_41 (by decide) (by first | exact Or.inl rfl | exact Or.inr ⟨_, rfl, rfl⟩) ?_
          refine g_goto (tgt := 12) X dX4_multiplyCosts_44 (by decide) ?_
          refine ih12 _ _ (by omega) ?_ ?_
          · omega
          · first | rw [e2, hs] | rw [hs]
            funext q k
            by_cases hk : k = j
            · subst hk
              simp only [up, muC, TB, TI, TC, TR, Int.add_zero, and_true, true_and]
              simp only [TB, TI, TC, TR] at *
              repeat' first | refine ite_l (fun h => ?_) (fun h => ?_) | refine ite_r (fun h => ?_) (fun h => ?_)
              all_goals first | omega | (refine st_c ?_ ?_ <;> omega) | (refine congrArg (fun x => x * f) (st_c ?_ ?_) <;> omega) | skip
            · simp only [up, muC, TB, TI, TC, TR, Int.add_zero, and_true, true_and]
              simp only [TB, TI, TC, TR] at *
              repeat' first | refine ite_l (fun h => ?_) (fun h => ?_) | refine ite_r (fun h => ?_) (fun h => ?_)
              all_goals first | omega | (refine st_c ?_ ?_ <;> omega) | (refine congrArg (fun x => x * f) (st_c ?_ ?_) <;> omega) | skip
        · skip
          have hc9 := hc j (by omega) (by omega) (by omega)
          rw [← e2] at hc9
          refine g_aload0 X dX4_multiplyCosts_29 ?_
          refine gf_4_costs X (by omega) i4 (by decide +kernel) dX4_multiplyCosts_30 ?_
          refine g_iload1 X dX4_multiplyCosts_33 ?_
          refine g_aald_TC X (by omega) (by omega) dX4_multiplyCosts_34 ?_
          refine g_iload3 X dX4_multiplyCosts_35 ?_
          refine g_dup2 X dX4_multiplyCosts_36 rfl rfl ?_
          refine g_iald X (ia_TR (by omega) (by omega) (by omega)) dX4_multiplyCosts_37 ?_
          refine g_iload2 X dX4_multiplyCosts_38 ?_
          refine g_imul X dX4_multiplyCosts_39 ?_
          refine g_iast X (ia_TR (by omega) (by omega) (by omega)) (by first | exact hR23 _ _ | exact hRL12 _ _ | exact hR9 _ _ | exact hR0 _ _ | assumption | (unfold InR; omega)) dX4_multiplyCosts_40 ?_
          refine g_rg (fun hR40 => ?_)
          refine g_iinc3 X dX4_multiplyCosts_41 (by decide) (by first | exact Or.inl rfl | exact Or.inr ⟨_, rfl, rfl⟩) ?_
          refine g_goto (tgt := 12) X dX4_multiplyCosts_44 (by decide) ?_
          refine ih12 _ _ (by omega) ?_ ?_
          · omega
          · first | rw [e2, hs] | rw [hs]
            funext q k
            by_cases hk : k = j
            · subst hk
              simp only [up, muC, TB, TI, TC, TR, Int.add_zero, and_true, true_and]
              simp only [TB, TI, TC, TR] at *
              repeat' first | refine ite_l (fun h => ?_) (fun h => ?_) | refine ite_r (fun h => ?_) (fun h => ?_)
              all_goals first | omega | (refine st_c ?_ ?_ <;> omega) | (refine congrArg (fun x => x * f) (st_c ?_ ?_) <;> omega) | skip
            · simp only [up, muC, TB, TI, TC, TR, Int.add_zero, and_true, true_and]
              simp only [TB, TI, TC, TR] at *
              repeat' first | refine ite_l (fun h => ?_) (fun h => ?_) | refine ite_r (fun h => ?_) (fun h => ?_)
              all_goals first | omega | (refine st_c ?_ ?_ <;> omega) | (refine congrArg (fun x => x * f) (st_c ?_ ?_) <;> omega) | skip
  refine L12 _ _ _ (Nat.lt_succ_self _) ?_ ?_
  · omega
  · funext q k
    simp only [up, muC, TB, TI, TC, TR, Int.add_zero, and_true, true_and]
    simp only [TB, TI, TC, TR] at *
    repeat' first | refine ite_l (fun h => ?_) (fun h => ?_) | refine ite_r (fun h => ?_) (fun h => ?_)
    all_goals first | omega | (refine st_c ?_ ?_ <;> omega) | (refine congrArg (fun x => x * f) (st_c ?_ ?_) <;> omega) | skip
end
section
theorem dX5_init_0 : decode cX5_init 0 = .ok (.aload_n 0, 1) := by decide +kernel
theorem dX5_init_1 : decode cX5_init 1 = .ok (.invokespecial 3, 3) := by decide +kernel
theorem dX5_init_4 : decode cX5_init 4 = .ok (.aload_n 0, 1) := by decide +kernel
theorem dX5_init_5 : decode cX5_init 5 = .ok (.bipush 80, 2) := by decide +kernel
theorem dX5_init_7 : decode cX5_init 7 = .ok (.newarray .char, 2) := by decide +kernel
theorem dX5_init_9 : decode cX5_init 9 = .ok (.putfield 9, 3) := by decide +kernel
theorem dX5_init_12 : decode cX5_init 12 = .ok (.return_, 1) := by decide +kernel
theorem dX5_append_0 : decode cX5_append 0 = .ok (.aload_n 0, 1) := by decide +kernel
theorem dX5_append_1 : decode cX5_append 1 = .ok (.getfield 9, 3) := by decide +kernel
theorem dX5_append_4 : decode cX5_append 4 = .ok (.aload_n 0, 1) := by decide +kernel
theorem dX5_append_5 : decode cX5_append 5 = .ok (.getfield 15, 3) := by decide +kernel
theorem dX5_append_8 : decode cX5_append 8 = .ok (.iload_n 1, 1) := by decide +kernel
theorem dX5_append_9 : decode cX5_append 9 = .ok (.castore, 1) := by decide +kernel
theorem dX5_append_10 : decode cX5_append 10 = .ok (.aload_n 0, 1) := by decide +kernel
theorem dX5_append_11 : decode cX5_append 11 = .ok (.dup, 1) := by decide +kernel
theorem dX5_append_12 : decode cX5_append 12 = .ok (.getfield 15, 3) := by decide +kernel
theorem dX5_append_15 : decode cX5_append 15 = .ok (.iconst 1, 1) := by decide +kernel
theorem dX5_append_16 : decode cX5_append 16 = .ok (.iadd, 1) := by decide +kernel
theorem dX5_append_17 : decode cX5_append 17 = .ok (.putfield 15, 3) := by decide +kernel
theorem dX5_append_20 : decode cX5_append 20 = .ok (.return_, 1) := by decide +kernel
theorem dX5_isAt_0 : decode cX5_isAt 0 = .ok (.iload_n 1, 1) := by decide +kernel
theorem dX5_isAt_1 : decode cX5_isAt 1 = .ok (.aload_n 0, 1) := by decide +kernel
theorem dX5_isAt_2 : decode cX5_isAt 2 = .ok (.getfield 15, 3) := by decide +kernel
theorem dX5_isAt_5 : decode cX5_isAt 5 = .ok (.if_icmp .ge 17, 3) := by decide +kernel
theorem dX5_isAt_8 : decode cX5_isAt 8 = .ok (.aload_n 0, 1) := by decide +kernel
theorem dX5_isAt_9 : decode cX5_isAt 9 = .ok (.getfield 9, 3) := by decide +kernel
theorem dX5_isAt_12 : decode cX5_isAt 12 = .ok (.iload_n 1, 1) := by decide +kernel
theorem dX5_isAt_13 : decode cX5_isAt 13 = .ok (.caload, 1) := by decide +kernel
theorem dX5_isAt_14 : decode cX5_isAt 14 = .ok (.iload_n 2, 1) := by decide +kernel
theorem dX5_isAt_15 : decode cX5_isAt 15 = .ok (.if_icmp .ne 7, 3) := by decide +kernel
theorem dX5_isAt_18 : decode cX5_isAt 18 = .ok (.iconst 1, 1) := by decide +kernel
theorem dX5_isAt_19 : decode cX5_isAt 19 = .ok (.goto 4, 3) := by decide +kernel
theorem dX5_isAt_22 : decode cX5_isAt 22 = .ok (.iconst 0, 1) := by decide +kernel
theorem dX5_isAt_23 : decode cX5_isAt 23 = .ok (.ireturn, 1) := by decide +kernel
theorem dX5_digitAt_0 : decode cX5_digitAt 0 = .ok (.iload_n 1, 1) := by decide +kernel
theorem dX5_digitAt_1 : decode cX5_digitAt 1 = .ok (.aload_n 0, 1) := by decide +kernel
theorem dX5_digitAt_2 : decode cX5_digitAt 2 = .ok (.getfield 15, 3) := by decide +kernel
theorem dX5_digitAt_5 : decode cX5_digitAt 5 = .ok (.if_icmp .ge 25, 3) := by decide +kernel
theorem dX5_digitAt_8 : decode cX5_digitAt 8 = .ok (.aload_n 0, 1) := by decide +kernel
theorem dX5_digitAt_9 : decode cX5_digitAt 9 = .ok (.getfield 9, 3) := by decide +kernel
theorem dX5_digitAt_12 : decode cX5_digitAt 12 = .ok (.iload_n 1, 1) := by decide +kernel
theorem dX5_digitAt_13 : decode cX5_digitAt 13 = .ok (.caload, 1) := by decide +kernel
theorem dX5_digitAt_14 : decode cX5_digitAt 14 = .ok (.bipush 48, 2) := by decide +kernel
theorem dX5_digitAt_16 : decode cX5_digitAt 16 = .ok (.if_icmp .lt 14, 3) := by decide +kernel
theorem dX5_digitAt_19 : decode cX5_digitAt 19 = .ok (.aload_n 0, 1) := by decide +kernel
theorem dX5_digitAt_20 : decode cX5_digitAt 20 = .ok (.getfield 9, 3) := by decide +kernel
theorem dX5_digitAt_23 : decode cX5_digitAt 23 = .ok (.iload_n 1, 1) := by decide +kernel
theorem dX5_digitAt_24 : decode cX5_digitAt 24 = .ok (.caload, 1) := by decide +kernel
theorem dX5_digitAt_25 : decode cX5_digitAt 25 = .ok (.bipush 57, 2) := by decide +kernel
theorem dX5_digitAt_27 : decode cX5_digitAt 27 = .ok (.if_icmp .le 5, 3) := by decide +kernel
theorem dX5_digitAt_30 : decode cX5_digitAt 30 = .ok (.iconst (-1), 1) := by decide +kernel
theorem dX5_digitAt_31 : decode cX5_digitAt 31 = .ok (.ireturn, 1) := by decide +kernel
theorem dX5_digitAt_32 : decode cX5_digitAt 32 = .ok (.aload_n 0, 1) := by decide +kernel
theorem dX5_digitAt_33 : decode cX5_digitAt 33 = .ok (.getfield 9, 3) := by decide +kernel
theorem dX5_digitAt_36 : decode cX5_digitAt 36 = .ok (.iload_n 1, 1) := by decide +kernel
theorem dX5_digitAt_37 : decode cX5_digitAt 37 = .ok (.caload, 1) := by decide +kernel
theorem dX5_digitAt_38 : decode cX5_digitAt 38 = .ok (.bipush 48, 2) := by decide +kernel
theorem dX5_digitAt_40 : decode cX5_digitAt 40 = .ok (.isub, 1) := by decide +kernel
theorem dX5_digitAt_41 : decode cX5_digitAt 41 = .ok (.ireturn, 1) := by decide +kernel
end
section
set_option maxRecDepth 20000 in
theorem ggX0_init_X4_init : GoodIn wsX0_init wsX4_init := goodIn_r _ [10, 11, 2, 3, 12, 13, 14, 15, 18, 19, 20, 21] (by decide +kernel) (by decide +kernel)
set_option maxRecDepth 20000 in
theorem gX0_init_X4_init : GoodIn wsX0_init (wsX4_init) := ggX0_init_X4_init
theorem dX0_init_0 : decode cX0_init 0 = .ok (.aload_n 0, 1) := by decide +kernel
theorem dX0_init_1 : decode cX0_init 1 = .ok (.invokespecial 3, 3) := by decide +kernel
theorem dX0_init_4 : decode cX0_init 4 = .ok (.aload_n 0, 1) := by decide +kernel
theorem dX0_init_5 : decode cX0_init 5 = .ok (.iconst 4, 1) := by decide +kernel
theorem dX0_init_6 : decode cX0_init 6 = .ok (.anewarray 9, 3) := by decide +kernel
theorem dX0_init_9 : decode cX0_init 9 = .ok (.putfield 11, 3) := by decide +kernel
theorem dX0_init_12 : decode cX0_init 12 = .ok (.iconst 0, 1) := by decide +kernel
theorem dX0_init_13 : decode cX0_init 13 = .ok (.istore_n 1, 1) := by decide +kernel
theorem dX0_init_14 : decode cX0_init 14 = .ok (.iload_n 1, 1) := by decide +kernel
theorem dX0_init_15 : decode cX0_init 15 = .ok (.iconst 4, 1) := by decide +kernel
theorem dX0_init_16 : decode cX0_init 16 = .ok (.if_icmp .ge 22, 3) := by decide +kernel
theorem dX0_init_19 : decode cX0_init 19 = .ok (.aload_n 0, 1) := by decide +kernel
theorem dX0_init_20 : decode cX0_init 20 = .ok (.getfield 11, 3) := by decide +kernel
theorem dX0_init_23 : decode cX0_init 23 = .ok (.iload_n 1, 1) := by decide +kernel
theorem dX0_init_24 : decode cX0_init 24 = .ok (.new 9, 3) := by decide +kernel
theorem dX0_init_27 : decode cX0_init 27 = .ok (.dup, 1) := by decide +kernel
theorem dX0_init_28 : decode cX0_init 28 = .ok (.invokespecial 17, 3) := by decide +kernel
theorem dX0_init_31 : decode cX0_init 31 = .ok (.aastore, 1) := by decide +kernel
theorem dX0_init_32 : decode cX0_init 32 = .ok (.iinc 1 1, 3) := by decide +kernel
theorem dX0_init_35 : decode cX0_init 35 = .ok (.goto (-21), 3) := by decide +kernel
theorem dX0_init_38 : decode cX0_init 38 = .ok (.return_, 1) := by decide +kernel
set_option maxRecDepth 20000 in
theorem ggX0_keep_X0_dropOldest : GoodIn wsX0_keep wsX0_dropOldest := goodIn_r _ [7, 2, 1, 17, 18] (by decide +kernel) (by decide +kernel)
set_option maxRecDepth 20000 in
theorem gX0_keep_X0_dropOldest : GoodIn wsX0_keep (wsV RX0 22 RX0 yX0_dropOldest wsX0_dropOldest) := goodIn_app (goodIn_of _ (by decide +kernel)) ggX0_keep_X0_dropOldest
set_option maxRecDepth 20000 in
theorem ggX0_keep_X4_copyFrom : GoodIn wsX0_keep wsX4_copyFrom := goodIn_r _ [12, 13, 14, 15, 16, 19, 20, 21, 22] (by decide +kernel) (by decide +kernel)
set_option maxRecDepth 20000 in
theorem gX0_keep_X4_copyFrom : GoodIn wsX0_keep (wsV RX0 25 RX4 yX4_copyFrom wsX4_copyFrom) := goodIn_app (goodIn_of _ (by decide +kernel)) ggX0_keep_X4_copyFrom
theorem dX0_keep_0 : decode cX0_keep 0 = .ok (.aload_n 0, 1) := by decide +kernel
theorem dX0_keep_1 : decode cX0_keep 1 = .ok (.getfield 18, 3) := by decide +kernel
theorem dX0_keep_4 : decode cX0_keep 4 = .ok (.iconst 4, 1) := by decide +kernel
theorem dX0_keep_5 : decode cX0_keep 5 = .ok (.if_icmp .ne 7, 3) := by decide +kernel
theorem dX0_keep_8 : decode cX0_keep 8 = .ok (.aload_n 0, 1) := by decide +kernel
theorem dX0_keep_9 : decode cX0_keep 9 = .ok (.invokevirtual 22, 3) := by decide +kernel
theorem dX0_keep_12 : decode cX0_keep 12 = .ok (.aload_n 0, 1) := by decide +kernel
theorem dX0_keep_13 : decode cX0_keep 13 = .ok (.getfield 11, 3) := by decide +kernel
theorem dX0_keep_16 : decode cX0_keep 16 = .ok (.aload_n 0, 1) := by decide +kernel
theorem dX0_keep_17 : decode cX0_keep 17 = .ok (.getfield 18, 3) := by decide +kernel
theorem dX0_keep_20 : decode cX0_keep 20 = .ok (.aaload, 1) := by decide +kernel
theorem dX0_keep_21 : decode cX0_keep 21 = .ok (.aload_n 1, 1) := by decide +kernel
theorem dX0_keep_22 : decode cX0_keep 22 = .ok (.invokevirtual 25, 3) := by decide +kernel
theorem dX0_keep_25 : decode cX0_keep 25 = .ok (.aload_n 0, 1) := by decide +kernel
theorem dX0_keep_26 : decode cX0_keep 26 = .ok (.dup, 1) := by decide +kernel
theorem dX0_keep_27 : decode cX0_keep 27 = .ok (.getfield 18, 3) := by decide +kernel
theorem dX0_keep_30 : decode cX0_keep 30 = .ok (.iconst 1, 1) := by decide +kernel
theorem dX0_keep_31 : decode cX0_keep 31 = .ok (.iadd, 1) := by decide +kernel
theorem dX0_keep_32 : decode cX0_keep 32 = .ok (.putfield 18, 3) := by decide +kernel
theorem dX0_keep_35 : decode cX0_keep 35 = .ok (.return_, 1) := by decide +kernel
theorem dX0_dropOldest_0 : decode cX0_dropOldest 0 = .ok (.aload_n 0, 1) := by decide +kernel
theorem dX0_dropOldest_1 : decode cX0_dropOldest 1 = .ok (.getfield 11, 3) := by decide +kernel
theorem dX0_dropOldest_4 : decode cX0_dropOldest 4 = .ok (.iconst 0, 1) := by decide +kernel
theorem dX0_dropOldest_5 : decode cX0_dropOldest 5 = .ok (.aaload, 1) := by decide +kernel
theorem dX0_dropOldest_6 : decode cX0_dropOldest 6 = .ok (.astore_n 1, 1) := by decide +kernel
theorem dX0_dropOldest_7 : decode cX0_dropOldest 7 = .ok (.aload_n 0, 1) := by decide +kernel
theorem dX0_dropOldest_8 : decode cX0_dropOldest 8 = .ok (.dup, 1) := by decide +kernel
theorem dX0_dropOldest_9 : decode cX0_dropOldest 9 = .ok (.getfield 18, 3) := by decide +kernel
theorem dX0_dropOldest_12 : decode cX0_dropOldest 12 = .ok (.iconst 1, 1) := by decide +kernel
theorem dX0_dropOldest_13 : decode cX0_dropOldest 13 = .ok (.isub, 1) := by decide +kernel
theorem dX0_dropOldest_14 : decode cX0_dropOldest 14 = .ok (.putfield 18, 3) := by decide +kernel
theorem dX0_dropOldest_17 : decode cX0_dropOldest 17 = .ok (.iconst 0, 1) := by decide +kernel
theorem dX0_dropOldest_18 : decode cX0_dropOldest 18 = .ok (.istore_n 2, 1) := by decide +kernel
theorem dX0_dropOldest_19 : decode cX0_dropOldest 19 = .ok (.iload_n 2, 1) := by decide +kernel
theorem dX0_dropOldest_20 : decode cX0_dropOldest 20 = .ok (.aload_n 0, 1) := by decide +kernel
theorem dX0_dropOldest_21 : decode cX0_dropOldest 21 = .ok (.getfield 18, 3) := by decide +kernel
theorem dX0_dropOldest_24 : decode cX0_dropOldest 24 = .ok (.if_icmp .ge 23, 3) := by decide +kernel
theorem dX0_dropOldest_27 : decode cX0_dropOldest 27 = .ok (.aload_n 0, 1) := by decide +kernel
theorem dX0_dropOldest_28 : decode cX0_dropOldest 28 = .ok (.getfield 11, 3) := by decide +kernel
theorem dX0_dropOldest_31 : decode cX0_dropOldest 31 = .ok (.iload_n 2, 1) := by decide +kernel
theorem dX0_dropOldest_32 : decode cX0_dropOldest 32 = .ok (.aload_n 0, 1) := by decide +kernel
theorem dX0_dropOldest_33 : decode cX0_dropOldest 33 = .ok (.getfield 11, 3) := by decide +kernel
theorem dX0_dropOldest_36 : decode cX0_dropOldest 36 = .ok (.iload_n 2, 1) := by decide +kernel
theorem dX0_dropOldest_37 : decode cX0_dropOldest 37 = .ok (.iconst 1, 1) := by decide +kernel
theorem dX0_dropOldest_38 : decode cX0_dropOldest 38 = .ok (.iadd, 1) := by decide +kernel
theorem dX0_dropOldest_39 : decode cX0_dropOldest 39 = .ok (.aaload, 1) := by decide +kernel
theorem dX0_dropOldest_40 : decode cX0_dropOldest 40 = .ok (.aastore, 1) := by decide +kernel
theorem dX0_dropOldest_41 : decode cX0_dropOldest 41 = .ok (.iinc 2 1, 3) := by decide +kernel
theorem dX0_dropOldest_44 : decode cX0_dropOldest 44 = .ok (.goto (-25), 3) := by decide +kernel
theorem dX0_dropOldest_47 : decode cX0_dropOldest 47 = .ok (.aload_n 0, 1) := by decide +kernel
theorem dX0_dropOldest_48 : decode cX0_dropOldest 48 = .ok (.getfield 11, 3) := by decide +kernel
theorem dX0_dropOldest_51 : decode cX0_dropOldest 51 = .ok (.aload_n 0, 1) := by decide +kernel
theorem dX0_dropOldest_52 : decode cX0_dropOldest 52 = .ok (.getfield 18, 3) := by decide +kernel
theorem dX0_dropOldest_55 : decode cX0_dropOldest 55 = .ok (.aload_n 1, 1) := by decide +kernel
theorem dX0_dropOldest_56 : decode cX0_dropOldest 56 = .ok (.aastore, 1) := by decide +kernel
theorem dX0_dropOldest_57 : decode cX0_dropOldest 57 = .ok (.return_, 1) := by decide +kernel
end
section
theorem dX1_init_0 : decode cX1_init 0 = .ok (.aload_n 0, 1) := by decide +kernel
theorem dX1_init_1 : decode cX1_init 1 = .ok (.invokespecial 3, 3) := by decide +kernel
theorem dX1_init_4 : decode cX1_init 4 = .ok (.aload_n 0, 1) := by decide +kernel
theorem dX1_init_5 : decode cX1_init 5 = .ok (.aload_n 1, 1) := by decide +kernel
theorem dX1_init_6 : decode cX1_init 6 = .ok (.putfield 9, 3) := by decide +kernel
theorem dX1_init_9 : decode cX1_init 9 = .ok (.aload_n 0, 1) := by decide +kernel
theorem dX1_init_10 : decode cX1_init 10 = .ok (.bipush 7, 2) := by decide +kernel
theorem dX1_init_12 : decode cX1_init 12 = .ok (.newarray .int, 2) := by decide +kernel
theorem dX1_init_14 : decode cX1_init 14 = .ok (.putfield 15, 3) := by decide +kernel
theorem dX1_init_17 : decode cX1_init 17 = .ok (.aload_n 0, 1) := by decide +kernel
theorem dX1_init_18 : decode cX1_init 18 = .ok (.bipush 8, 2) := by decide +kernel
theorem dX1_init_20 : decode cX1_init 20 = .ok (.sipush 128, 3) := by decide +kernel
theorem dX1_init_23 : decode cX1_init 23 = .ok (.multianewarray 19 2, 4) := by decide +kernel
theorem dX1_init_27 : decode cX1_init 27 = .ok (.putfield 21, 3) := by decide +kernel
theorem dX1_init_30 : decode cX1_init 30 = .ok (.return_, 1) := by decide +kernel
set_option maxRecDepth 20000 in
theorem ggX1_leastTotal_X4_allWorkers : GoodIn wsX1_leastTotal wsX4_allWorkers := goodIn_r _ [6, 7, 39, 40, 41, 42] (by decide +kernel) (by decide +kernel)
set_option maxRecDepth 20000 in
theorem gX1_leastTotal_X4_allWorkers : GoodIn wsX1_leastTotal (wsV RX1 24 RX4 yX4_allWorkers wsX4_allWorkers) := goodIn_app (goodIn_of _ (by decide +kernel)) ggX1_leastTotal_X4_allWorkers
set_option maxRecDepth 20000 in
theorem ggX1_leastTotal_X1_leastTotalOf : GoodIn wsX1_leastTotal wsX1_leastTotalOf := goodIn_r _ [12, 13, 14, 15, 16, 11, 17, 1, 18, 19, 20, 21, 22, 23, 24, 25, 26, 27, 28, 29, 30, 31, 32, 33, 34, 35, 36, 37, 38, 39, 40, 41, 42] (by decide +kernel) (by decide +kernel)
set_option maxRecDepth 20000 in
theorem gX1_leastTotal_X1_leastTotalOf : GoodIn wsX1_leastTotal (wsV RX1 30 RX1 yX1_leastTotalOf wsX1_leastTotalOf) := goodIn_app (goodIn_of _ (by decide +kernel)) ggX1_leastTotal_X1_leastTotalOf
theorem dX1_leastTotal_0 : decode cX1_leastTotal 0 = .ok (.aload_n 0, 1) := by decide +kernel
theorem dX1_leastTotal_1 : decode cX1_leastTotal 1 = .ok (.aload_n 0, 1) := by decide +kernel
theorem dX1_leastTotal_2 : decode cX1_leastTotal 2 = .ok (.getfield 9, 3) := by decide +kernel
theorem dX1_leastTotal_5 : decode cX1_leastTotal 5 = .ok (.invokevirtual 24, 3) := by decide +kernel
theorem dX1_leastTotal_8 : decode cX1_leastTotal 8 = .ok (.invokevirtual 30, 3) := by decide +kernel
theorem dX1_leastTotal_11 : decode cX1_leastTotal 11 = .ok (.ireturn, 1) := by decide +kernel
set_option maxRecDepth 20000 in
theorem ggX1_leastTotalOf_X1_weigh : GoodIn wsX1_leastTotalOf wsX1_weigh := goodIn_r _ [6, 7, 8, 1, 9, 10, 11, 12, 5, 13, 14, 15, 16, 17, 18, 19, 20, 21, 22, 23, 24, 25, 26, 27, 28, 29, 30, 31, 32] (by decide +kernel) (by decide +kernel)
set_option maxRecDepth 20000 in
theorem gX1_leastTotalOf_X1_weigh : GoodIn wsX1_leastTotalOf (wsV RX1 34 RX1 yX1_weigh wsX1_weigh) := goodIn_app (goodIn_of _ (by decide +kernel)) ggX1_leastTotalOf_X1_weigh
theorem dX1_leastTotalOf_0 : decode cX1_leastTotalOf 0 = .ok (.aload_n 0, 1) := by decide +kernel
theorem dX1_leastTotalOf_1 : decode cX1_leastTotalOf 1 = .ok (.iload_n 1, 1) := by decide +kernel
theorem dX1_leastTotalOf_2 : decode cX1_leastTotalOf 2 = .ok (.invokevirtual 34, 3) := by decide +kernel
theorem dX1_leastTotalOf_5 : decode cX1_leastTotalOf 5 = .ok (.aload_n 0, 1) := by decide +kernel
theorem dX1_leastTotalOf_6 : decode cX1_leastTotalOf 6 = .ok (.getfield 21, 3) := by decide +kernel
theorem dX1_leastTotalOf_9 : decode cX1_leastTotalOf 9 = .ok (.iconst 0, 1) := by decide +kernel
theorem dX1_leastTotalOf_10 : decode cX1_leastTotalOf 10 = .ok (.aaload, 1) := by decide +kernel
theorem dX1_leastTotalOf_11 : decode cX1_leastTotalOf 11 = .ok (.iconst 0, 1) := by decide +kernel
theorem dX1_leastTotalOf_12 : decode cX1_leastTotalOf 12 = .ok (.iaload, 1) := by decide +kernel
theorem dX1_leastTotalOf_13 : decode cX1_leastTotalOf 13 = .ok (.ireturn, 1) := by decide +kernel
set_option maxRecDepth 20000 in
theorem ggX1_lossWithoutTask_X4_allWorkers : GoodIn wsX1_lossWithoutTask wsX4_allWorkers := goodIn_r _ [7, 8, 35, 36, 37, 38] (by decide +kernel) (by decide +kernel)
set_option maxRecDepth 20000 in
theorem gX1_lossWithoutTask_X4_allWorkers : GoodIn wsX1_lossWithoutTask (wsV RX1 24 RX4 yX4_allWorkers wsX4_allWorkers) := goodIn_app (goodIn_of _ (by decide +kernel)) ggX1_lossWithoutTask_X4_allWorkers
set_option maxRecDepth 20000 in
theorem ggX1_lossWithoutTask_X1_weigh : GoodIn wsX1_lossWithoutTask wsX1_weigh := goodIn_r _ [13, 1, 14, 2, 15, 16, 17, 18, 12, 19, 20, 21, 22, 23, 24, 25, 26, 27, 28, 29, 30, 31, 32, 33, 34, 35, 36, 37, 38] (by decide +kernel) (by decide +kernel)
set_option maxRecDepth 20000 in
theorem gX1_lossWithoutTask_X1_weigh : GoodIn wsX1_lossWithoutTask (wsV RX1 34 RX1 yX1_weigh wsX1_weigh) := goodIn_app (goodIn_of _ (by decide +kernel)) ggX1_lossWithoutTask_X1_weigh
theorem dX1_lossWithoutTask_0 : decode cX1_lossWithoutTask 0 = .ok (.aload_n 0, 1) := by decide +kernel
theorem dX1_lossWithoutTask_1 : decode cX1_lossWithoutTask 1 = .ok (.aload_n 0, 1) := by decide +kernel
theorem dX1_lossWithoutTask_2 : decode cX1_lossWithoutTask 2 = .ok (.getfield 9, 3) := by decide +kernel
theorem dX1_lossWithoutTask_5 : decode cX1_lossWithoutTask 5 = .ok (.invokevirtual 24, 3) := by decide +kernel
theorem dX1_lossWithoutTask_8 : decode cX1_lossWithoutTask 8 = .ok (.invokevirtual 34, 3) := by decide +kernel
theorem dX1_lossWithoutTask_11 : decode cX1_lossWithoutTask 11 = .ok (.aload_n 0, 1) := by decide +kernel
theorem dX1_lossWithoutTask_12 : decode cX1_lossWithoutTask 12 = .ok (.getfield 21, 3) := by decide +kernel
theorem dX1_lossWithoutTask_15 : decode cX1_lossWithoutTask 15 = .ok (.iconst 0, 1) := by decide +kernel
theorem dX1_lossWithoutTask_16 : decode cX1_lossWithoutTask 16 = .ok (.aaload, 1) := by decide +kernel
theorem dX1_lossWithoutTask_17 : decode cX1_lossWithoutTask 17 = .ok (.iconst 1, 1) := by decide +kernel
theorem dX1_lossWithoutTask_18 : decode cX1_lossWithoutTask 18 = .ok (.iload_n 1, 1) := by decide +kernel
theorem dX1_lossWithoutTask_19 : decode cX1_lossWithoutTask 19 = .ok (.ishl, 1) := by decide +kernel
theorem dX1_lossWithoutTask_20 : decode cX1_lossWithoutTask 20 = .ok (.iaload, 1) := by decide +kernel
theorem dX1_lossWithoutTask_21 : decode cX1_lossWithoutTask 21 = .ok (.aload_n 0, 1) := by decide +kernel
theorem dX1_lossWithoutTask_22 : decode cX1_lossWithoutTask 22 = .ok (.getfield 21, 3) := by decide +kernel
theorem dX1_lossWithoutTask_25 : decode cX1_lossWithoutTask 25 = .ok (.iconst 0, 1) := by decide +kernel
theorem dX1_lossWithoutTask_26 : decode cX1_lossWithoutTask 26 = .ok (.aaload, 1) := by decide +kernel
theorem dX1_lossWithoutTask_27 : decode cX1_lossWithoutTask 27 = .ok (.iconst 0, 1) := by decide +kernel
theorem dX1_lossWithoutTask_28 : decode cX1_lossWithoutTask 28 = .ok (.iaload, 1) := by decide +kernel
theorem dX1_lossWithoutTask_29 : decode cX1_lossWithoutTask 29 = .ok (.isub, 1) := by decide +kernel
theorem dX1_lossWithoutTask_30 : decode cX1_lossWithoutTask 30 = .ok (.ireturn, 1) := by decide +kernel
set_option maxRecDepth 20000 in
theorem ggX1_weigh_X1_leastFrom : GoodIn wsX1_weigh wsX1_leastFrom := goodIn_r _ [9, 1, 10, 3, 2, 11, 12, 13, 14, 15, 16, 17, 8, 18, 19, 20, 21, 22, 23, 24, 25, 26, 27, 28] (by decide +kernel) (by decide +kernel)
set_option maxRecDepth 20000 in
theorem gX1_weigh_X1_leastFrom : GoodIn wsX1_weigh (wsV RX1 45 RX1 yX1_leastFrom wsX1_leastFrom) := goodIn_app (goodIn_of _ (by decide +kernel)) ggX1_weigh_X1_leastFrom
theorem dX1_weigh_0 : decode cX1_weigh 0 = .ok (.iconst 1, 1) := by decide +kernel
theorem dX1_weigh_1 : decode cX1_weigh 1 = .ok (.aload_n 0, 1) := by decide +kernel
theorem dX1_weigh_2 : decode cX1_weigh 2 = .ok (.getfield 9, 3) := by decide +kernel
theorem dX1_weigh_5 : decode cX1_weigh 5 = .ok (.getfield 38, 3) := by decide +kernel
theorem dX1_weigh_8 : decode cX1_weigh 8 = .ok (.ishl, 1) := by decide +kernel
theorem dX1_weigh_9 : decode cX1_weigh 9 = .ok (.istore_n 2, 1) := by decide +kernel
theorem dX1_weigh_10 : decode cX1_weigh 10 = .ok (.iconst 0, 1) := by decide +kernel
theorem dX1_weigh_11 : decode cX1_weigh 11 = .ok (.istore_n 3, 1) := by decide +kernel
theorem dX1_weigh_12 : decode cX1_weigh 12 = .ok (.iload_n 3, 1) := by decide +kernel
theorem dX1_weigh_13 : decode cX1_weigh 13 = .ok (.iload_n 2, 1) := by decide +kernel
theorem dX1_weigh_14 : decode cX1_weigh 14 = .ok (.if_icmp .ge 24, 3) := by decide +kernel
theorem dX1_weigh_17 : decode cX1_weigh 17 = .ok (.aload_n 0, 1) := by decide +kernel
theorem dX1_weigh_18 : decode cX1_weigh 18 = .ok (.getfield 21, 3) := by decide +kernel
theorem dX1_weigh_21 : decode cX1_weigh 21 = .ok (.aload_n 0, 1) := by decide +kernel
theorem dX1_weigh_22 : decode cX1_weigh 22 = .ok (.getfield 9, 3) := by decide +kernel
theorem dX1_weigh_25 : decode cX1_weigh 25 = .ok (.getfield 42, 3) := by decide +kernel
theorem dX1_weigh_28 : decode cX1_weigh 28 = .ok (.aaload, 1) := by decide +kernel
theorem dX1_weigh_29 : decode cX1_weigh 29 = .ok (.iload_n 3, 1) := by decide +kernel
theorem dX1_weigh_30 : decode cX1_weigh 30 = .ok (.iconst 0, 1) := by decide +kernel
theorem dX1_weigh_31 : decode cX1_weigh 31 = .ok (.iastore, 1) := by decide +kernel
theorem dX1_weigh_32 : decode cX1_weigh 32 = .ok (.iinc 3 1, 3) := by decide +kernel
theorem dX1_weigh_35 : decode cX1_weigh 35 = .ok (.goto (-23), 3) := by decide +kernel
theorem dX1_weigh_38 : decode cX1_weigh 38 = .ok (.aload_n 0, 1) := by decide +kernel
theorem dX1_weigh_39 : decode cX1_weigh 39 = .ok (.getfield 9, 3) := by decide +kernel
theorem dX1_weigh_42 : decode cX1_weigh 42 = .ok (.getfield 42, 3) := by decide +kernel
theorem dX1_weigh_45 : decode cX1_weigh 45 = .ok (.iconst 1, 1) := by decide +kernel
theorem dX1_weigh_46 : decode cX1_weigh 46 = .ok (.isub, 1) := by decide +kernel
theorem dX1_weigh_47 : decode cX1_weigh 47 = .ok (.istore_n 3, 1) := by decide +kernel
theorem dX1_weigh_48 : decode cX1_weigh 48 = .ok (.iload_n 3, 1) := by decide +kernel
theorem dX1_weigh_49 : decode cX1_weigh 49 = .ok (.ifCond .lt 75, 3) := by decide +kernel
theorem dX1_weigh_52 : decode cX1_weigh 52 = .ok (.iload_n 1, 1) := by decide +kernel
theorem dX1_weigh_53 : decode cX1_weigh 53 = .ok (.iload_n 3, 1) := by decide +kernel
theorem dX1_weigh_54 : decode cX1_weigh 54 = .ok (.ishr, 1) := by decide +kernel
theorem dX1_weigh_55 : decode cX1_weigh 55 = .ok (.iconst 1, 1) := by decide +kernel
theorem dX1_weigh_56 : decode cX1_weigh 56 = .ok (.iand, 1) := by decide +kernel
theorem dX1_weigh_57 : decode cX1_weigh 57 = .ok (.iconst 1, 1) := by decide +kernel
theorem dX1_weigh_58 : decode cX1_weigh 58 = .ok (.if_icmp .ne 7, 3) := by decide +kernel
theorem dX1_weigh_61 : decode cX1_weigh 61 = .ok (.iconst 1, 1) := by decide +kernel
theorem dX1_weigh_62 : decode cX1_weigh 62 = .ok (.goto 4, 3) := by decide +kernel
theorem dX1_weigh_65 : decode cX1_weigh 65 = .ok (.iconst 0, 1) := by decide +kernel
theorem dX1_weigh_66 : decode cX1_weigh 66 = .ok (.istore 4, 2) := by decide +kernel
theorem dX1_weigh_68 : decode cX1_weigh 68 = .ok (.iconst 0, 1) := by decide +kernel
theorem dX1_weigh_69 : decode cX1_weigh 69 = .ok (.istore 5, 2) := by decide +kernel
theorem dX1_weigh_71 : decode cX1_weigh 71 = .ok (.iload 5, 2) := by decide +kernel
theorem dX1_weigh_73 : decode cX1_weigh 73 = .ok (.iload_n 2, 1) := by decide +kernel
theorem dX1_weigh_74 : decode cX1_weigh 74 = .ok (.if_icmp .ge 44, 3) := by decide +kernel
theorem dX1_weigh_77 : decode cX1_weigh 77 = .ok (.aload_n 0, 1) := by decide +kernel
theorem dX1_weigh_78 : decode cX1_weigh 78 = .ok (.getfield 21, 3) := by decide +kernel
theorem dX1_weigh_81 : decode cX1_weigh 81 = .ok (.iload_n 3, 1) := by decide +kernel
theorem dX1_weigh_82 : decode cX1_weigh 82 = .ok (.aaload, 1) := by decide +kernel
theorem dX1_weigh_83 : decode cX1_weigh 83 = .ok (.iload 5, 2) := by decide +kernel
theorem dX1_weigh_85 : decode cX1_weigh 85 = .ok (.iload 4, 2) := by decide +kernel
theorem dX1_weigh_87 : decode cX1_weigh 87 = .ok (.ifCond .eq 13, 3) := by decide +kernel
theorem dX1_weigh_90 : decode cX1_weigh 90 = .ok (.aload_n 0, 1) := by decide +kernel
theorem dX1_weigh_91 : decode cX1_weigh 91 = .ok (.iload_n 3, 1) := by decide +kernel
theorem dX1_weigh_92 : decode cX1_weigh 92 = .ok (.iload 5, 2) := by decide +kernel
theorem dX1_weigh_94 : decode cX1_weigh 94 = .ok (.invokevirtual 45, 3) := by decide +kernel
theorem dX1_weigh_97 : decode cX1_weigh 97 = .ok (.goto 14, 3) := by decide +kernel
theorem dX1_weigh_100 : decode cX1_weigh 100 = .ok (.aload_n 0, 1) := by decide +kernel
theorem dX1_weigh_101 : decode cX1_weigh 101 = .ok (.getfield 21, 3) := by decide +kernel
theorem dX1_weigh_104 : decode cX1_weigh 104 = .ok (.iload_n 3, 1) := by decide +kernel
theorem dX1_weigh_105 : decode cX1_weigh 105 = .ok (.iconst 1, 1) := by decide +kernel
theorem dX1_weigh_106 : decode cX1_weigh 106 = .ok (.iadd, 1) := by decide +kernel
theorem dX1_weigh_107 : decode cX1_weigh 107 = .ok (.aaload, 1) := by decide +kernel
theorem dX1_weigh_108 : decode cX1_weigh 108 = .ok (.iload 5, 2) := by decide +kernel
theorem dX1_weigh_110 : decode cX1_weigh 110 = .ok (.iaload, 1) := by decide +kernel
theorem dX1_weigh_111 : decode cX1_weigh 111 = .ok (.iastore, 1) := by decide +kernel
theorem dX1_weigh_112 : decode cX1_weigh 112 = .ok (.iinc 5 1, 3) := by decide +kernel
theorem dX1_weigh_115 : decode cX1_weigh 115 = .ok (.goto (-44), 3) := by decide +kernel
theorem dX1_weigh_118 : decode cX1_weigh 118 = .ok (.iinc 3 (-1), 3) := by decide +kernel
theorem dX1_weigh_121 : decode cX1_weigh 121 = .ok (.goto (-73), 3) := by decide +kernel
theorem dX1_weigh_124 : decode cX1_weigh 124 = .ok (.return_, 1) := by decide +kernel
set_option maxRecDepth 20000 in
theorem ggX1_leastFrom_X1_totalFrom : GoodIn wsX1_leastFrom wsX1_totalFrom := goodIn_r _ [13, 1, 14, 15, 3, 16, 17, 18, 19, 20, 21, 22, 23] (by decide +kernel) (by decide +kernel)
set_option maxRecDepth 20000 in
theorem gX1_leastFrom_X1_totalFrom : GoodIn wsX1_leastFrom (wsV RX1 52 RX1 yX1_totalFrom wsX1_totalFrom) := goodIn_app (goodIn_of _ (by decide +kernel)) ggX1_leastFrom_X1_totalFrom
theorem dX1_leastFrom_0 : decode cX1_leastFrom 0 = .ok (.aload_n 0, 1) := by decide +kernel
theorem dX1_leastFrom_1 : decode cX1_leastFrom 1 = .ok (.getfield 9, 3) := by decide +kernel
theorem dX1_leastFrom_4 : decode cX1_leastFrom 4 = .ok (.getfield 49, 3) := by decide +kernel
theorem dX1_leastFrom_7 : decode cX1_leastFrom 7 = .ok (.iload_n 1, 1) := by decide +kernel
theorem dX1_leastFrom_8 : decode cX1_leastFrom 8 = .ok (.iaload, 1) := by decide +kernel
theorem dX1_leastFrom_9 : decode cX1_leastFrom 9 = .ok (.aload_n 0, 1) := by decide +kernel
theorem dX1_leastFrom_10 : decode cX1_leastFrom 10 = .ok (.getfield 21, 3) := by decide +kernel
theorem dX1_leastFrom_13 : decode cX1_leastFrom 13 = .ok (.iload_n 1, 1) := by decide +kernel
theorem dX1_leastFrom_14 : decode cX1_leastFrom 14 = .ok (.iconst 1, 1) := by decide +kernel
theorem dX1_leastFrom_15 : decode cX1_leastFrom 15 = .ok (.iadd, 1) := by decide +kernel
theorem dX1_leastFrom_16 : decode cX1_leastFrom 16 = .ok (.aaload, 1) := by decide +kernel
theorem dX1_leastFrom_17 : decode cX1_leastFrom 17 = .ok (.iload_n 2, 1) := by decide +kernel
theorem dX1_leastFrom_18 : decode cX1_leastFrom 18 = .ok (.iaload, 1) := by decide +kernel
theorem dX1_leastFrom_19 : decode cX1_leastFrom 19 = .ok (.iadd, 1) := by decide +kernel
theorem dX1_leastFrom_20 : decode cX1_leastFrom 20 = .ok (.istore_n 3, 1) := by decide +kernel
theorem dX1_leastFrom_21 : decode cX1_leastFrom 21 = .ok (.iconst 0, 1) := by decide +kernel
theorem dX1_leastFrom_22 : decode cX1_leastFrom 22 = .ok (.istore 4, 2) := by decide +kernel
theorem dX1_leastFrom_24 : decode cX1_leastFrom 24 = .ok (.iload 4, 2) := by decide +kernel
theorem dX1_leastFrom_26 : decode cX1_leastFrom 26 = .ok (.aload_n 0, 1) := by decide +kernel
theorem dX1_leastFrom_27 : decode cX1_leastFrom 27 = .ok (.getfield 9, 3) := by decide +kernel
theorem dX1_leastFrom_30 : decode cX1_leastFrom 30 = .ok (.getfield 38, 3) := by decide +kernel
theorem dX1_leastFrom_33 : decode cX1_leastFrom 33 = .ok (.if_icmp .ge 22, 3) := by decide +kernel
theorem dX1_leastFrom_36 : decode cX1_leastFrom 36 = .ok (.iload_n 3, 1) := by decide +kernel
theorem dX1_leastFrom_37 : decode cX1_leastFrom 37 = .ok (.aload_n 0, 1) := by decide +kernel
theorem dX1_leastFrom_38 : decode cX1_leastFrom 38 = .ok (.iload_n 1, 1) := by decide +kernel
theorem dX1_leastFrom_39 : decode cX1_leastFrom 39 = .ok (.iload 4, 2) := by decide +kernel
theorem dX1_leastFrom_41 : decode cX1_leastFrom 41 = .ok (.iload_n 2, 1) := by decide +kernel
theorem dX1_leastFrom_42 : decode cX1_leastFrom 42 = .ok (.invokevirtual 52, 3) := by decide +kernel
theorem dX1_leastFrom_45 : decode cX1_leastFrom 45 = .ok (.invokestatic 56, 3) := by decide +kernel
theorem dX1_leastFrom_48 : decode cX1_leastFrom 48 = .ok (.istore_n 3, 1) := by decide +kernel
theorem dX1_leastFrom_49 : decode cX1_leastFrom 49 = .ok (.iinc 4 1, 3) := by decide +kernel
theorem dX1_leastFrom_52 : decode cX1_leastFrom 52 = .ok (.goto (-28), 3) := by decide +kernel
theorem dX1_leastFrom_55 : decode cX1_leastFrom 55 = .ok (.iload_n 3, 1) := by decide +kernel
theorem dX1_leastFrom_56 : decode cX1_leastFrom 56 = .ok (.ireturn, 1) := by decide +kernel
theorem dX1_totalFrom_0 : decode cX1_totalFrom 0 = .ok (.aload_n 0, 1) := by decide +kernel
theorem dX1_totalFrom_1 : decode cX1_totalFrom 1 = .ok (.getfield 9, 3) := by decide +kernel
theorem dX1_totalFrom_4 : decode cX1_totalFrom 4 = .ok (.getfield 61, 3) := by decide +kernel
theorem dX1_totalFrom_7 : decode cX1_totalFrom 7 = .ok (.iload_n 1, 1) := by decide +kernel
theorem dX1_totalFrom_8 : decode cX1_totalFrom 8 = .ok (.aaload, 1) := by decide +kernel
theorem dX1_totalFrom_9 : decode cX1_totalFrom 9 = .ok (.iload_n 2, 1) := by decide +kernel
theorem dX1_totalFrom_10 : decode cX1_totalFrom 10 = .ok (.iaload, 1) := by decide +kernel
theorem dX1_totalFrom_11 : decode cX1_totalFrom 11 = .ok (.istore 4, 2) := by decide +kernel
theorem dX1_totalFrom_13 : decode cX1_totalFrom 13 = .ok (.iload 4, 2) := by decide +kernel
theorem dX1_totalFrom_15 : decode cX1_totalFrom 15 = .ok (.iconst (-1), 1) := by decide +kernel
theorem dX1_totalFrom_16 : decode cX1_totalFrom 16 = .ok (.if_icmp .eq 12, 3) := by decide +kernel
theorem dX1_totalFrom_19 : decode cX1_totalFrom 19 = .ok (.iload_n 3, 1) := by decide +kernel
theorem dX1_totalFrom_20 : decode cX1_totalFrom 20 = .ok (.iload_n 2, 1) := by decide +kernel
theorem dX1_totalFrom_21 : decode cX1_totalFrom 21 = .ok (.ishr, 1) := by decide +kernel
theorem dX1_totalFrom_22 : decode cX1_totalFrom 22 = .ok (.iconst 1, 1) := by decide +kernel
theorem dX1_totalFrom_23 : decode cX1_totalFrom 23 = .ok (.iand, 1) := by decide +kernel
theorem dX1_totalFrom_24 : decode cX1_totalFrom 24 = .ok (.iconst 1, 1) := by decide +kernel
theorem dX1_totalFrom_25 : decode cX1_totalFrom 25 = .ok (.if_icmp .ne 6, 3) := by decide +kernel
theorem dX1_totalFrom_28 : decode cX1_totalFrom 28 = .ok (.ldc 64, 2) := by decide +kernel
theorem dX1_totalFrom_30 : decode cX1_totalFrom 30 = .ok (.ireturn, 1) := by decide +kernel
theorem dX1_totalFrom_31 : decode cX1_totalFrom 31 = .ok (.iload 4, 2) := by decide +kernel
theorem dX1_totalFrom_33 : decode cX1_totalFrom 33 = .ok (.aload_n 0, 1) := by decide +kernel
theorem dX1_totalFrom_34 : decode cX1_totalFrom 34 = .ok (.getfield 21, 3) := by decide +kernel
theorem dX1_totalFrom_37 : decode cX1_totalFrom 37 = .ok (.iload_n 1, 1) := by decide +kernel
theorem dX1_totalFrom_38 : decode cX1_totalFrom 38 = .ok (.iconst 1, 1) := by decide +kernel
theorem dX1_totalFrom_39 : decode cX1_totalFrom 39 = .ok (.iadd, 1) := by decide +kernel
theorem dX1_totalFrom_40 : decode cX1_totalFrom 40 = .ok (.aaload, 1) := by decide +kernel
theorem dX1_totalFrom_41 : decode cX1_totalFrom 41 = .ok (.iload_n 3, 1) := by decide +kernel
theorem dX1_totalFrom_42 : decode cX1_totalFrom 42 = .ok (.iconst 1, 1) := by decide +kernel
theorem dX1_totalFrom_43 : decode cX1_totalFrom 43 = .ok (.iload_n 2, 1) := by decide +kernel
theorem dX1_totalFrom_44 : decode cX1_totalFrom 44 = .ok (.ishl, 1) := by decide +kernel
theorem dX1_totalFrom_45 : decode cX1_totalFrom 45 = .ok (.ior, 1) := by decide +kernel
theorem dX1_totalFrom_46 : decode cX1_totalFrom 46 = .ok (.iaload, 1) := by decide +kernel
theorem dX1_totalFrom_47 : decode cX1_totalFrom 47 = .ok (.iadd, 1) := by decide +kernel
theorem dX1_totalFrom_48 : decode cX1_totalFrom 48 = .ok (.ireturn, 1) := by decide +kernel
set_option maxRecDepth 20000 in
theorem ggX1_chooseFirst_X1_leastTotal : GoodIn wsX1_chooseFirst wsX1_leastTotal := goodIn_r _ [9, 2, 10, 11, 12, 13, 14, 15, 16, 17, 18, 8, 19, 20, 21, 22, 23, 24, 25, 3, 26, 27, 28, 29, 30, 31, 32, 33, 34, 35, 36, 37, 38, 39, 40, 45, 46, 47, 48, 49, 50, 51, 52] (by decide +kernel) (by decide +kernel)
set_option maxRecDepth 20000 in
theorem gX1_chooseFirst_X1_leastTotal : GoodIn wsX1_chooseFirst (wsV RX1 65 RX1 yX1_leastTotal wsX1_leastTotal) := goodIn_app (goodIn_of _ (by decide +kernel)) ggX1_chooseFirst_X1_leastTotal
set_option maxRecDepth 20000 in
theorem ggX1_chooseFirst_X1_lowestBestTask : GoodIn wsX1_chooseFirst wsX1_lowestBestTask := goodIn_r _ [44, 2, 25, 20, 35, 36, 37, 8, 38, 39, 40, 45, 46, 47, 48, 49, 50, 51, 52] (by decide +kernel) (by decide +kernel)
set_option maxRecDepth 20000 in
theorem gX1_chooseFirst_X1_lowestBestTask : GoodIn wsX1_chooseFirst (wsV RX1 71 RX1 yX1_lowestBestTask wsX1_lowestBestTask) := goodIn_app (goodIn_of _ (by decide +kernel)) ggX1_chooseFirst_X1_lowestBestTask
theorem dX1_chooseFirst_0 : decode cX1_chooseFirst 0 = .ok (.aload_n 0, 1) := by decide +kernel
theorem dX1_chooseFirst_1 : decode cX1_chooseFirst 1 = .ok (.aload_n 0, 1) := by decide +kernel
theorem dX1_chooseFirst_2 : decode cX1_chooseFirst 2 = .ok (.invokevirtual 65, 3) := by decide +kernel
theorem dX1_chooseFirst_5 : decode cX1_chooseFirst 5 = .ok (.putfield 68, 3) := by decide +kernel
theorem dX1_chooseFirst_8 : decode cX1_chooseFirst 8 = .ok (.iconst 0, 1) := by decide +kernel
theorem dX1_chooseFirst_9 : decode cX1_chooseFirst 9 = .ok (.istore_n 1, 1) := by decide +kernel
theorem dX1_chooseFirst_10 : decode cX1_chooseFirst 10 = .ok (.iconst 0, 1) := by decide +kernel
theorem dX1_chooseFirst_11 : decode cX1_chooseFirst 11 = .ok (.istore_n 2, 1) := by decide +kernel
theorem dX1_chooseFirst_12 : decode cX1_chooseFirst 12 = .ok (.iload_n 2, 1) := by decide +kernel
theorem dX1_chooseFirst_13 : decode cX1_chooseFirst 13 = .ok (.aload_n 0, 1) := by decide +kernel
theorem dX1_chooseFirst_14 : decode cX1_chooseFirst 14 = .ok (.getfield 9, 3) := by decide +kernel
theorem dX1_chooseFirst_17 : decode cX1_chooseFirst 17 = .ok (.getfield 42, 3) := by decide +kernel
theorem dX1_chooseFirst_20 : decode cX1_chooseFirst 20 = .ok (.if_icmp .ge 42, 3) := by decide +kernel
theorem dX1_chooseFirst_23 : decode cX1_chooseFirst 23 = .ok (.aload_n 0, 1) := by decide +kernel
theorem dX1_chooseFirst_24 : decode cX1_chooseFirst 24 = .ok (.getfield 15, 3) := by decide +kernel
theorem dX1_chooseFirst_27 : decode cX1_chooseFirst 27 = .ok (.iload_n 2, 1) := by decide +kernel
theorem dX1_chooseFirst_28 : decode cX1_chooseFirst 28 = .ok (.aload_n 0, 1) := by decide +kernel
theorem dX1_chooseFirst_29 : decode cX1_chooseFirst 29 = .ok (.iload_n 2, 1) := by decide +kernel
theorem dX1_chooseFirst_30 : decode cX1_chooseFirst 30 = .ok (.iload_n 1, 1) := by decide +kernel
theorem dX1_chooseFirst_31 : decode cX1_chooseFirst 31 = .ok (.invokevirtual 71, 3) := by decide +kernel
theorem dX1_chooseFirst_34 : decode cX1_chooseFirst 34 = .ok (.iastore, 1) := by decide +kernel
theorem dX1_chooseFirst_35 : decode cX1_chooseFirst 35 = .ok (.aload_n 0, 1) := by decide +kernel
theorem dX1_chooseFirst_36 : decode cX1_chooseFirst 36 = .ok (.getfield 15, 3) := by decide +kernel
theorem dX1_chooseFirst_39 : decode cX1_chooseFirst 39 = .ok (.iload_n 2, 1) := by decide +kernel
theorem dX1_chooseFirst_40 : decode cX1_chooseFirst 40 = .ok (.iaload, 1) := by decide +kernel
theorem dX1_chooseFirst_41 : decode cX1_chooseFirst 41 = .ok (.iconst (-1), 1) := by decide +kernel
theorem dX1_chooseFirst_42 : decode cX1_chooseFirst 42 = .ok (.if_icmp .eq 14, 3) := by decide +kernel
theorem dX1_chooseFirst_45 : decode cX1_chooseFirst 45 = .ok (.iload_n 1, 1) := by decide +kernel
theorem dX1_chooseFirst_46 : decode cX1_chooseFirst 46 = .ok (.iconst 1, 1) := by decide +kernel
theorem dX1_chooseFirst_47 : decode cX1_chooseFirst 47 = .ok (.aload_n 0, 1) := by decide +kernel
theorem dX1_chooseFirst_48 : decode cX1_chooseFirst 48 = .ok (.getfield 15, 3) := by decide +kernel
theorem dX1_chooseFirst_51 : decode cX1_chooseFirst 51 = .ok (.iload_n 2, 1) := by decide +kernel
theorem dX1_chooseFirst_52 : decode cX1_chooseFirst 52 = .ok (.iaload, 1) := by decide +kernel
theorem dX1_chooseFirst_53 : decode cX1_chooseFirst 53 = .ok (.ishl, 1) := by decide +kernel
theorem dX1_chooseFirst_54 : decode cX1_chooseFirst 54 = .ok (.ior, 1) := by decide +kernel
theorem dX1_chooseFirst_55 : decode cX1_chooseFirst 55 = .ok (.istore_n 1, 1) := by decide +kernel
theorem dX1_chooseFirst_56 : decode cX1_chooseFirst 56 = .ok (.iinc 2 1, 3) := by decide +kernel
theorem dX1_chooseFirst_59 : decode cX1_chooseFirst 59 = .ok (.goto (-47), 3) := by decide +kernel
theorem dX1_chooseFirst_62 : decode cX1_chooseFirst 62 = .ok (.return_, 1) := by decide +kernel
set_option maxRecDepth 20000 in
theorem ggX1_lowestBestTask_X1_totalFrom : GoodIn wsX1_lowestBestTask wsX1_totalFrom := goodIn_r _ [8, 1, 9, 10, 3, 11, 12, 13, 14, 15, 16, 17, 18] (by decide +kernel) (by decide +kernel)
set_option maxRecDepth 20000 in
theorem gX1_lowestBestTask_X1_totalFrom : GoodIn wsX1_lowestBestTask (wsV RX1 52 RX1 yX1_totalFrom wsX1_totalFrom) := goodIn_app (goodIn_of _ (by decide +kernel)) ggX1_lowestBestTask_X1_totalFrom
theorem dX1_lowestBestTask_0 : decode cX1_lowestBestTask 0 = .ok (.iconst 0, 1) := by decide +kernel
theorem dX1_lowestBestTask_1 : decode cX1_lowestBestTask 1 = .ok (.istore_n 3, 1) := by decide +kernel
theorem dX1_lowestBestTask_2 : decode cX1_lowestBestTask 2 = .ok (.iload_n 3, 1) := by decide +kernel
theorem dX1_lowestBestTask_3 : decode cX1_lowestBestTask 3 = .ok (.aload_n 0, 1) := by decide +kernel
theorem dX1_lowestBestTask_4 : decode cX1_lowestBestTask 4 = .ok (.getfield 9, 3) := by decide +kernel
theorem dX1_lowestBestTask_7 : decode cX1_lowestBestTask 7 = .ok (.getfield 38, 3) := by decide +kernel
theorem dX1_lowestBestTask_10 : decode cX1_lowestBestTask 10 = .ok (.if_icmp .ge 29, 3) := by decide +kernel
theorem dX1_lowestBestTask_13 : decode cX1_lowestBestTask 13 = .ok (.aload_n 0, 1) := by decide +kernel
theorem dX1_lowestBestTask_14 : decode cX1_lowestBestTask 14 = .ok (.iload_n 1, 1) := by decide +kernel
theorem dX1_lowestBestTask_15 : decode cX1_lowestBestTask 15 = .ok (.iload_n 3, 1) := by decide +kernel
theorem dX1_lowestBestTask_16 : decode cX1_lowestBestTask 16 = .ok (.iload_n 2, 1) := by decide +kernel
theorem dX1_lowestBestTask_17 : decode cX1_lowestBestTask 17 = .ok (.invokevirtual 52, 3) := by decide +kernel
theorem dX1_lowestBestTask_20 : decode cX1_lowestBestTask 20 = .ok (.aload_n 0, 1) := by decide +kernel
theorem dX1_lowestBestTask_21 : decode cX1_lowestBestTask 21 = .ok (.getfield 21, 3) := by decide +kernel
theorem dX1_lowestBestTask_24 : decode cX1_lowestBestTask 24 = .ok (.iload_n 1, 1) := by decide +kernel
theorem dX1_lowestBestTask_25 : decode cX1_lowestBestTask 25 = .ok (.aaload, 1) := by decide +kernel
theorem dX1_lowestBestTask_26 : decode cX1_lowestBestTask 26 = .ok (.iload_n 2, 1) := by decide +kernel
theorem dX1_lowestBestTask_27 : decode cX1_lowestBestTask 27 = .ok (.iaload, 1) := by decide +kernel
theorem dX1_lowestBestTask_28 : decode cX1_lowestBestTask 28 = .ok (.if_icmp .ne 5, 3) := by decide +kernel
theorem dX1_lowestBestTask_31 : decode cX1_lowestBestTask 31 = .ok (.iload_n 3, 1) := by decide +kernel
theorem dX1_lowestBestTask_32 : decode cX1_lowestBestTask 32 = .ok (.ireturn, 1) := by decide +kernel
theorem dX1_lowestBestTask_33 : decode cX1_lowestBestTask 33 = .ok (.iinc 3 1, 3) := by decide +kernel
theorem dX1_lowestBestTask_36 : decode cX1_lowestBestTask 36 = .ok (.goto (-34), 3) := by decide +kernel
theorem dX1_lowestBestTask_39 : decode cX1_lowestBestTask 39 = .ok (.iconst (-1), 1) := by decide +kernel
theorem dX1_lowestBestTask_40 : decode cX1_lowestBestTask 40 = .ok (.ireturn, 1) := by decide +kernel
theorem dX1_chosenPairs_0 : decode cX1_chosenPairs 0 = .ok (.iconst 0, 1) := by decide +kernel
theorem dX1_chosenPairs_1 : decode cX1_chosenPairs 1 = .ok (.istore_n 1, 1) := by decide +kernel
theorem dX1_chosenPairs_2 : decode cX1_chosenPairs 2 = .ok (.iconst 0, 1) := by decide +kernel
theorem dX1_chosenPairs_3 : decode cX1_chosenPairs 3 = .ok (.istore_n 2, 1) := by decide +kernel
theorem dX1_chosenPairs_4 : decode cX1_chosenPairs 4 = .ok (.iload_n 2, 1) := by decide +kernel
theorem dX1_chosenPairs_5 : decode cX1_chosenPairs 5 = .ok (.aload_n 0, 1) := by decide +kernel
theorem dX1_chosenPairs_6 : decode cX1_chosenPairs 6 = .ok (.getfield 9, 3) := by decide +kernel
theorem dX1_chosenPairs_9 : decode cX1_chosenPairs 9 = .ok (.getfield 42, 3) := by decide +kernel
theorem dX1_chosenPairs_12 : decode cX1_chosenPairs 12 = .ok (.if_icmp .ge 22, 3) := by decide +kernel
theorem dX1_chosenPairs_15 : decode cX1_chosenPairs 15 = .ok (.aload_n 0, 1) := by decide +kernel
theorem dX1_chosenPairs_16 : decode cX1_chosenPairs 16 = .ok (.getfield 15, 3) := by decide +kernel
theorem dX1_chosenPairs_19 : decode cX1_chosenPairs 19 = .ok (.iload_n 2, 1) := by decide +kernel
theorem dX1_chosenPairs_20 : decode cX1_chosenPairs 20 = .ok (.iaload, 1) := by decide +kernel
theorem dX1_chosenPairs_21 : decode cX1_chosenPairs 21 = .ok (.iconst (-1), 1) := by decide +kernel
theorem dX1_chosenPairs_22 : decode cX1_chosenPairs 22 = .ok (.if_icmp .eq 6, 3) := by decide +kernel
theorem dX1_chosenPairs_25 : decode cX1_chosenPairs 25 = .ok (.iinc 1 1, 3) := by decide +kernel
theorem dX1_chosenPairs_28 : decode cX1_chosenPairs 28 = .ok (.iinc 2 1, 3) := by decide +kernel
theorem dX1_chosenPairs_31 : decode cX1_chosenPairs 31 = .ok (.goto (-27), 3) := by decide +kernel
theorem dX1_chosenPairs_34 : decode cX1_chosenPairs 34 = .ok (.iload_n 1, 1) := by decide +kernel
theorem dX1_chosenPairs_35 : decode cX1_chosenPairs 35 = .ok (.ireturn, 1) := by decide +kernel
end
section
/-! MY CONTRACTS: the text, the history -/
def iA (σ : St) (i c : Int) : Int := if i < σ 8 0 ∧ σ 9 i = c then 1 else 0
def dA (σ : St) (i : Int) : Int := if i < σ 8 0 ∧ 48 ≤ σ 9 i ∧ σ 9 i ≤ 57 then σ 9 i - 48 else -1
theorem iA_01 (σ : St) (i c : Int) : (iA σ i c = 1 ∧ i < σ 8 0 ∧ σ 9 i = c) ∨ (iA σ i c = 0 ∧ (σ 8 0 ≤ i ∨ σ 9 i ≠ c)) := by
  unfold iA
  by_cases h : i < σ 8 0 ∧ σ 9 i = c
  · rw [if_pos h]; exact Or.inl ⟨rfl, h⟩
  · rw [if_neg h]; exact Or.inr ⟨rfl, by omega⟩
theorem dA_09 (σ : St) (i : Int) : (dA σ i = σ 9 i - 48 ∧ i < σ 8 0 ∧ 48 ≤ σ 9 i ∧ σ 9 i ≤ 57) ∨ (dA σ i = -1 ∧ (σ 8 0 ≤ i ∨ σ 9 i < 48 ∨ 57 < σ 9 i)) := by
  unfold dA
  by_cases h : i < σ 8 0 ∧ 48 ≤ σ 9 i ∧ σ 9 i ≤ 57
  · rw [if_pos h]; exact Or.inl ⟨rfl, h⟩
  · rw [if_neg h]; exact Or.inr ⟨rfl, by omega⟩
def apT (σ : St) (c : Int) : St := up (up σ 9 (σ 8 0) c) 8 0 (σ 8 0 + 1)
/-- the history: its size, its states' tables, each of 1 to 4 once -/
def HP (σ : St) : Prop := (0 ≤ σ 1 0 ∧ σ 1 0 ≤ 4) ∧ (∀ i, 0 ≤ i → i < 4 → 1 ≤ σ 2 i ∧ σ 2 i ≤ 4) ∧ ∀ i j, 0 ≤ i → i < j → j < 4 → σ 2 i ≠ σ 2 j
def dOl (σ : St) (j : Int) : St := fun q k => if q = 1 ∧ k = 0 then 3 else if q = 2 ∧ 0 ≤ k ∧ k < j then σ 2 (k + 1) else σ q k
def dOm (σ : St) : St := up (dOl σ 3) 2 3 (σ 2 0)
theorem dOm_at (σ : St) : (dOm σ 1 0 = 3 ∧ dOm σ 2 0 = σ 2 1 ∧ dOm σ 2 1 = σ 2 2 ∧ dOm σ 2 2 = σ 2 3 ∧ dOm σ 2 3 = σ 2 0) ∧ ∀ q k, q ≠ 1 → q ≠ 2 → dOm σ q k = σ q k := by
  refine ⟨⟨?_, ?_, ?_, ?_, ?_⟩, fun q k h1 h2 => ?_⟩
  · simp [dOm, up, dOl]
  · simp [dOm, up, dOl]
  · simp [dOm, up, dOl]
  · simp [dOm, up, dOl]
  · simp [dOm, up]
  · simp [dOm, up, dOl, h1, h2]
theorem dOm_HP {σ : St} (h : HP σ) : HP (dOm σ) := by
  obtain ⟨⟨h1, h2, h3, h4, h5⟩, -⟩ := dOm_at σ
  obtain ⟨-, g2, g3⟩ := h
  have a0 := g2 0 (by omega) (by omega)
  have a1 := g2 1 (by omega) (by omega)
  have a2 := g2 2 (by omega) (by omega)
  have a3 := g2 3 (by omega) (by omega)
  have b01 := g3 0 1 (by omega) (by omega) (by omega)
  have b02 := g3 0 2 (by omega) (by omega) (by omega)
  have b03 := g3 0 3 (by omega) (by omega) (by omega)
  have b12 := g3 1 2 (by omega) (by omega) (by omega)
  have b13 := g3 1 3 (by omega) (by omega) (by omega)
  have b23 := g3 2 3 (by omega) (by omega) (by omega)
  refine ⟨by omega, fun i i1 i2 => ?_, fun i j i1 i2 i3 => ?_⟩
  · rcases (show i = 0 ∨ i = 1 ∨ i = 2 ∨ i = 3 by omega) with rfl | rfl | rfl | rfl <;> omega
  · rcases (show (i = 0 ∧ j = 1) ∨ (i = 0 ∧ j = 2) ∨ (i = 0 ∧ j = 3) ∨ (i = 1 ∧ j = 2) ∨ (i = 1 ∧ j = 3) ∨ (i = 2 ∧ j = 3) by omega) with ⟨rfl, rfl⟩ | ⟨rfl, rfl⟩ | ⟨rfl, rfl⟩ | ⟨rfl, rfl⟩ | ⟨rfl, rfl⟩ | ⟨rfl, rfl⟩ <;> omega
/-- the state that is kept goes where the oldest was, if there are four -/
def kp0 (σ : St) : St := if σ 1 0 = 4 then dOm σ else σ
theorem kp0_HP {σ : St} (h : HP σ) : HP (kp0 σ) ∧ kp0 σ 1 0 ≤ 3 := by
  unfold kp0
  by_cases e : σ 1 0 = 4
  · rw [if_pos e]; exact ⟨dOm_HP h, by rw [(dOm_at σ).1.1]; omega⟩
  · rw [if_neg e]; exact ⟨h, by have := h.1; omega⟩
def kp (σ : St) : St := up (cpT (kp0 σ) (kp0 σ 2 (kp0 σ 1 0)) 0) 1 0 (kp0 σ 1 0 + 1)
def gB (σ : St) : St := cpT (up σ 1 0 (σ 1 0 - 1)) 0 (σ 2 (σ 1 0 - 1))
theorem cpT_1 {σ : St} {t u q k : Int} (ht : 0 ≤ t ∧ t < 6) (hq : q < 11 ∨ 71 ≤ q) : cpT σ t u q k = σ q k := by
  unfold cpT cpL
  simp only [TB, TI, TR]
  repeat' refine ite_l (fun h => ?_) (fun h => ?_)
  all_goals omega
set_option maxHeartbeats 4000000 in
set_option maxRecDepth 100000 in
theorem k_X5_append (E0 : EV) {ad : Int → Nat} {σ : St} {c : Int} (hl : 0 ≤ σ 8 0 ∧ σ 8 0 < 80) (hc : 0 ≤ c ∧ c < 65536) : MGE E0 yX5_append wsX5_append 0 0 ad σ [.ref (ad 8), .int (iI c)] (PW (apT σ c)) := by
  refine MGE.of (cc := cX5_append) (maxL := 2) (ret := none) (own := RX5) [some (.ref (ad 8)), some (.int (iI c))] (by decide +kernel) rfl rfl (Nat.le_of_ble_eq_true rfl) rfl rfl (fun E X hr => ?_)
  have i5 : ∀ w ∈ wsX50, w ∈ wsX5_append := by decide +kernel
  refine g_rg (fun hR0 => ?_)
  refine g_aload0 X dX5_append_0 ?_
  refine gf_5_signs X i5 (by decide +kernel) dX5_append_1 ?_
  refine g_aload0 X dX5_append_4 ?_
  refine gf_5_length X i5 (by decide +kernel) dX5_append_5 ?_
  refine g_iload1 X dX5_append_8 ?_
  refine g_cast X (by omega) (by omega) dX5_append_9 ?_
  refine g_rg (fun hR9 => ?_)
  refine g_aload0 X dX5_append_10 ?_
  refine g_dup X dX5_append_11 rfl ?_
  refine gf_5_length X i5 (by decide +kernel) dX5_append_12 ?_
  have u1 : up σ 9 (σ 8 0) c 8 0 = σ 8 0 := by simp [up]
  refine g_iconst X dX5_append_15 ?_
  refine g_iadd X dX5_append_16 ?_
  refine gp_5_length X i5 (by decide +kernel) (by first | exact hR9 _ _ | exact hR0 _ _ | assumption | (unfold InR; omega)) dX5_append_17 ?_
  refine g_rg (fun hR17 => ?_)
  exact g_vretW X hr (by funext q k; simp [apT, up]) dX5_append_20

set_option maxHeartbeats 4000000 in
set_option maxRecDepth 100000 in
theorem k_X5_isAt (E0 : EV) {ad : Int → Nat} {σ : St} {i c : Int} (hl : 0 ≤ σ 8 0 ∧ σ 8 0 ≤ 80) (hi : 0 ≤ i ∧ i ≤ 80) (hc : 0 ≤ c ∧ c < 65536) : MGE E0 yX5_isAt wsX5_isAt 0 0 ad σ [.ref (ad 8), .int (iI i), .int (iI c)] (PF (iA σ i c) σ) := by
  refine MGE.of (cc := cX5_isAt) (maxL := 3) (ret := (some .boolean)) (own := RX5) [some (.ref (ad 8)), some (.int (iI i)), some (.int (iI c))] (by decide +kernel) rfl rfl (Nat.le_of_ble_eq_true rfl) rfl rfl (fun E X hr => ?_)
  have i5 : ∀ w ∈ wsX50, w ∈ wsX5_isAt := by decide +kernel
  refine g_rg (fun hR0 => ?_)
  refine g_iload1 X dX5_isAt_0 ?_
  refine g_aload0 X dX5_isAt_1 ?_
  refine gf_5_length X i5 (by decide +kernel) dX5_isAt_2 ?_
  refine g_icmp_ge (tgt := 22) X (by first | exact hR0 _ _ | assumption | (unfold InR; omega)) (by first | exact hR0 _ _ | assumption | (unfold InR; omega)) dX5_isAt_5 (by decide) (fun h5 => ?_) (fun h5 => ?_)
  · skip
    refine g_iconst X dX5_isAt_22 ?_
    exact g_zretF X hr (by first | exact Or.inl rfl | exact Or.inr rfl | omega) (by first | exact ⟨by unfold iA; rw [if_pos (by omega)], rfl⟩ | exact ⟨by unfold iA; rw [if_neg (by omega)], rfl⟩ | exact ⟨by unfold dA; rw [if_pos (by omega)], rfl⟩ | exact ⟨by unfold dA; rw [if_neg (by omega)], rfl⟩) dX5_isAt_23
  · skip
    refine g_aload0 X dX5_isAt_8 ?_
    refine gf_5_signs X i5 (by decide +kernel) dX5_isAt_9 ?_
    refine g_iload1 X dX5_isAt_12 ?_
    refine g_cald X (by omega) dX5_isAt_13 ?_
    refine g_iload2 X dX5_isAt_14 ?_
    refine g_icmp_ne (tgt := 22) X (by first | exact hR0 _ _ | assumption | (unfold InR; omega)) (by first | exact hR0 _ _ | assumption | (unfold InR; omega)) dX5_isAt_15 (by decide) (fun h15 => ?_) (fun h15 => ?_)
    · skip
      refine g_iconst X dX5_isAt_22 ?_
      exact g_zretF X hr (by first | exact Or.inl rfl | exact Or.inr rfl | omega) (by first | exact ⟨by unfold iA; rw [if_pos (by omega)], rfl⟩ | exact ⟨by unfold iA; rw [if_neg (by omega)], rfl⟩ | exact ⟨by unfold dA; rw [if_pos (by omega)], rfl⟩ | exact ⟨by unfold dA; rw [if_neg (by omega)], rfl⟩) dX5_isAt_23
    · skip
      refine g_iconst X dX5_isAt_18 ?_
      refine g_goto (tgt := 23) X dX5_isAt_19 (by decide) ?_
      exact g_zretF X hr (by first | exact Or.inl rfl | exact Or.inr rfl | omega) (by first | exact ⟨by unfold iA; rw [if_pos (by omega)], rfl⟩ | exact ⟨by unfold iA; rw [if_neg (by omega)], rfl⟩ | exact ⟨by unfold dA; rw [if_pos (by omega)], rfl⟩ | exact ⟨by unfold dA; rw [if_neg (by omega)], rfl⟩) dX5_isAt_23

set_option maxHeartbeats 4000000 in
set_option maxRecDepth 100000 in
theorem k_X5_digitAt (E0 : EV) {ad : Int → Nat} {σ : St} {i : Int} (hl : 0 ≤ σ 8 0 ∧ σ 8 0 ≤ 80) (hi : 0 ≤ i ∧ i ≤ 80) (hT : ∀ k, 0 ≤ k → k < 80 → 0 ≤ σ 9 k ∧ σ 9 k < 65536) : MGE E0 yX5_digitAt wsX5_digitAt 0 0 ad σ [.ref (ad 8), .int (iI i)] (PF (dA σ i) σ) := by
  refine MGE.of (cc := cX5_digitAt) (maxL := 2) (ret := (some .int)) (own := RX5) [some (.ref (ad 8)), some (.int (iI i))] (by decide +kernel) rfl rfl (Nat.le_of_ble_eq_true rfl) rfl rfl (fun E X hr => ?_)
  have i5 : ∀ w ∈ wsX50, w ∈ wsX5_digitAt := by decide +kernel
  refine g_rg (fun hR0 => ?_)
  refine g_iload1 X dX5_digitAt_0 ?_
  refine g_aload0 X dX5_digitAt_1 ?_
  refine gf_5_length X i5 (by decide +kernel) dX5_digitAt_2 ?_
  refine g_icmp_ge (tgt := 30) X (by first | exact hR0 _ _ | assumption | (unfold InR; omega)) (by first | exact hR0 _ _ | assumption | (unfold InR; omega)) dX5_digitAt_5 (by decide) (fun h5 => ?_) (fun h5 => ?_)
  · skip
    refine g_iconst X dX5_digitAt_30 ?_
    exact g_iretF X hr (by first | exact hR0 _ _ | assumption | (unfold InR; omega)) (by first | exact ⟨by unfold iA; rw [if_pos (by omega)], rfl⟩ | exact ⟨by unfold iA; rw [if_neg (by omega)], rfl⟩ | exact ⟨by unfold dA; rw [if_pos (by omega)], rfl⟩ | exact ⟨by unfold dA; rw [if_neg (by omega)], rfl⟩) dX5_digitAt_31
  · skip
    refine g_aload0 X dX5_digitAt_8 ?_
    refine gf_5_signs X i5 (by decide +kernel) dX5_digitAt_9 ?_
    refine g_iload1 X dX5_digitAt_12 ?_
    refine g_cald X (by omega) dX5_digitAt_13 ?_
    refine g_bipush X dX5_digitAt_14 (by decide +kernel) ?_
    refine g_icmp_lt (tgt := 30) X (by first | exact hR0 _ _ | assumption | (unfold InR; omega)) (by first | exact hR0 _ _ | assumption | (unfold InR; omega)) dX5_digitAt_16 (by decide) (fun h16 => ?_) (fun h16 => ?_)
    · skip
      skip
      refine g_iconst X dX5_digitAt_30 ?_
      exact g_iretF X hr (by first | exact hR0 _ _ | assumption | (unfold InR; omega)) (by first | exact ⟨by unfold iA; rw [if_pos (by omega)], rfl⟩ | exact ⟨by unfold iA; rw [if_neg (by omega)], rfl⟩ | exact ⟨by unfold dA; rw [if_pos (by omega)], rfl⟩ | exact ⟨by unfold dA; rw [if_neg (by omega)], rfl⟩) dX5_digitAt_31
    · skip
      refine g_aload0 X dX5_digitAt_19 ?_
      refine gf_5_signs X i5 (by decide +kernel) dX5_digitAt_20 ?_
      refine g_iload1 X dX5_digitAt_23 ?_
      refine g_cald X (by omega) dX5_digitAt_24 ?_
      refine g_bipush X dX5_digitAt_25 (by decide +kernel) ?_
      refine g_icmp_le (tgt := 32) X (by first | exact hR0 _ _ | assumption | (unfold InR; omega)) (by first | exact hR0 _ _ | assumption | (unfold InR; omega)) dX5_digitAt_27 (by decide) (fun h27 => ?_) (fun h27 => ?_)
      · skip
        have hT9 := hT i (by omega) (by omega)
        refine g_aload0 X dX5_digitAt_32 ?_
        refine gf_5_signs X i5 (by decide +kernel) dX5_digitAt_33 ?_
        refine g_iload1 X dX5_digitAt_36 ?_
        refine g_cald X (by omega) dX5_digitAt_37 ?_
        refine g_bipush X dX5_digitAt_38 (by decide +kernel) ?_
        refine g_isub X dX5_digitAt_40 ?_
        exact g_iretF X hr (by first | exact hR0 _ _ | assumption | (unfold InR; omega)) (by first | exact ⟨by unfold iA; rw [if_pos (by omega)], rfl⟩ | exact ⟨by unfold iA; rw [if_neg (by omega)], rfl⟩ | exact ⟨by unfold dA; rw [if_pos (by omega)], rfl⟩ | exact ⟨by unfold dA; rw [if_neg (by omega)], rfl⟩) dX5_digitAt_41
      · skip
        refine g_iconst X dX5_digitAt_30 ?_
        exact g_iretF X hr (by first | exact hR0 _ _ | assumption | (unfold InR; omega)) (by first | exact ⟨by unfold iA; rw [if_pos (by omega)], rfl⟩ | exact ⟨by unfold iA; rw [if_neg (by omega)], rfl⟩ | exact ⟨by unfold dA; rw [if_pos (by omega)], rfl⟩ | exact ⟨by unfold dA; rw [if_neg (by omega)], rfl⟩) dX5_digitAt_31

set_option maxHeartbeats 4000000 in
set_option maxRecDepth 100000 in
theorem k_X0_dropOldest (E0 : EV) {ad : Int → Nat} {σ : St} (hHP : HP σ) (h4 : σ 1 0 = 4) : MGE E0 yX0_dropOldest wsX0_dropOldest 0 0 ad σ [.ref (ad 1)] (PW (dOm σ)) := by
  refine MGE.of (cc := cX0_dropOldest) (maxL := 3) (ret := none) (own := RX0) [some (.ref (ad 1)), none, none] (by decide +kernel) rfl rfl (Nat.le_of_ble_eq_true rfl) rfl rfl (fun E X hr => ?_)
  have i0 : ∀ w ∈ wsX00, w ∈ wsX0_dropOldest := by decide +kernel
  refine g_rg (fun hR0 => ?_)
  refine g_aload0 X dX0_dropOldest_0 ?_
  have h20 := hHP.2.1 0 (by omega) (by omega)
  refine gf_0_states X i0 (by decide +kernel) dX0_dropOldest_1 ?_
  refine g_iconst X dX0_dropOldest_4 ?_
  refine g_aald_2 X (by omega) dX0_dropOldest_5 ?_
  refine g_astore1 X dX0_dropOldest_6 (by decide) (by first | exact Or.inl rfl | exact Or.inr ⟨_, rfl, rfl⟩) ?_
  refine g_aload0 X dX0_dropOldest_7 ?_
  refine g_dup X dX0_dropOldest_8 rfl ?_
  refine gf_0_size X i0 (by decide +kernel) dX0_dropOldest_9 ?_
  refine g_iconst X dX0_dropOldest_12 ?_
  refine g_isub X dX0_dropOldest_13 ?_
  refine gp_0_size X i0 (by decide +kernel) (by first | exact hR0 _ _ | assumption | (unfold InR; omega)) dX0_dropOldest_14 ?_
  refine g_rg (fun hR14 => ?_)
  refine g_iconst X dX0_dropOldest_17 ?_
  refine g_istore2 X dX0_dropOldest_18 (by decide) (by first | exact Or.inl rfl | exact Or.inr ⟨_, rfl, rfl⟩) ?_
  have L19 : ∀ (n19 : Nat) (j : Int) (σ1 : St), (3 - j).toNat < n19 → (0 ≤ j ∧ j ≤ 3) → (σ1 = dOl σ j) → WG E ad 3 σ1 19 [some (.ref (ad 1)), some (.ref (ad (TB (σ 2 0)))), some (.int (iI j))] [] := by
    intro n19
    induction n19 with
    | zero => intro j σ1 hn; exact absurd hn (Nat.not_lt_zero _)
    | succ n19 ih19 =>
      intro j σ1 hn19 hj hs
      refine g_rg (fun hRL19 => ?_)
      have e0 : σ1 1 0 = 3 := by rw [hs]; simp [dOl]
      have e1 : ∀ k, j ≤ k → σ1 2 k = σ 2 k := fun k hk => by rw [hs]; unfold dOl; rw [if_neg (by omega), if_neg (by omega)]
      refine g_iload2 X dX0_dropOldest_19 ?_
      refine g_aload0 X dX0_dropOldest_20 ?_
      refine gf_0_size X i0 (by decide +kernel) dX0_dropOldest_21 ?_
      refine g_icmp_ge (tgt := 47) X (by first | exact hRL19 _ _ | exact hR14 _ _ | exact hR0 _ _ | assumption | (unfold InR; omega)) (by first | exact hRL19 _ _ | exact hR14 _ _ | exact hR0 _ _ | assumption | (unfold InR; omega)) dX0_dropOldest_24 (by decide) (fun h24 => ?_) (fun h24 => ?_)
      · skip
        refine g_aload0 X dX0_dropOldest_47 ?_
        refine gf_0_states X i0 (by decide +kernel) dX0_dropOldest_48 ?_
        refine g_aload0 X dX0_dropOldest_51 ?_
        refine gf_0_size X i0 (by decide +kernel) dX0_dropOldest_52 ?_
        refine g_aload1 X dX0_dropOldest_55 ?_
        refine g_aast_2 X (by omega) (by omega) dX0_dropOldest_56 ?_
        refine g_rg (fun hR56 => ?_)
        exact g_vretW X hr (by rw [e0, hs, show j = 3 by omega]; rfl) dX0_dropOldest_57
      · skip
        refine g_aload0 X dX0_dropOldest_27 ?_
        refine gf_0_states X i0 (by decide +kernel) dX0_dropOldest_28 ?_
        refine g_iload2 X dX0_dropOldest_31 ?_
        refine g_aload0 X dX0_dropOldest_32 ?_
        refine gf_0_states X i0 (by decide +kernel) dX0_dropOldest_33 ?_
        refine g_iload2 X dX0_dropOldest_36 ?_
        refine g_iconst X dX0_dropOldest_37 ?_
        refine g_iadd X dX0_dropOldest_38 ?_
        refine g_aald_2 X (by omega) dX0_dropOldest_39 ?_
        have h2j := hHP.2.1 (j + 1) (by omega) (by omega)
        have e2 := e1 (j + 1) (by omega)
        refine g_aast_2 X (by omega) (by omega) dX0_dropOldest_40 ?_
        refine g_rg (fun hR40 => ?_)
        refine g_iinc2 X dX0_dropOldest_41 (by decide) (by first | exact Or.inl rfl | exact Or.inr ⟨_, rfl, rfl⟩) ?_
        refine g_goto (tgt := 19) X dX0_dropOldest_44 (by decide) ?_
        refine ih19 _ _ (by omega) ?_ ?_
        · omega
        · rw [hs]
          funext q k
          simp only [up, dOl]
          repeat' first | refine ite_l (fun h => ?_) (fun h => ?_) | refine ite_r (fun h => ?_) (fun h => ?_)
          all_goals first | omega | (refine st_c ?_ ?_ <;> omega)
  refine L19 _ _ _ (Nat.lt_succ_self _) ?_ ?_
  · omega
  · funext q k
    simp only [up, dOl]
    repeat' first | refine ite_l (fun h => ?_) (fun h => ?_) | refine ite_r (fun h => ?_) (fun h => ?_)
    all_goals first | omega | (refine st_c ?_ ?_ <;> omega)

set_option maxHeartbeats 4000000 in
set_option maxRecDepth 100000 in
theorem k_X0_keep (E0 : EV) {ad : Int → Nat} {σ : St} (hHP : HP σ) : MGE E0 yX0_keep wsX0_keep 1 23 ad σ [.ref (ad 1), .ref (ad (TB 0))] (PW (kp σ)) := by
  refine MGE.of (cc := cX0_keep) (maxL := 2) (ret := none) (own := RX0) [some (.ref (ad 1)), some (.ref (ad (TB 0)))] (by decide +kernel) rfl rfl (Nat.le_of_ble_eq_true rfl) rfl rfl (fun E X hr => ?_)
  have i0 : ∀ w ∈ wsX00, w ∈ wsX0_keep := by decide +kernel
  refine g_rg (fun hR0 => ?_)
  have J12 : ∀ σ1 : St, σ1 = kp0 σ → WG E ad 2 σ1 12 [some (.ref (ad 1)), some (.ref (ad (TB 0)))] [] := by
    intro σ1 hs
    have hk := kp0_HP hHP
    rw [← hs] at hk
    obtain ⟨⟨k1, k2, -⟩, k4⟩ := hk
    have k5 := k2 (σ1 1 0) (by omega) (by omega)
    refine g_rg (fun hR1 => ?_)
    refine g_aload0 X dX0_keep_12 ?_
    refine gf_0_states X i0 (by decide +kernel) dX0_keep_13 ?_
    refine g_aload0 X dX0_keep_16 ?_
    refine gf_0_size X i0 (by decide +kernel) dX0_keep_17 ?_
    refine g_aald_2 X (by omega) dX0_keep_20 ?_
    refine g_aload1 X dX0_keep_21 ?_
    refine g_W1 X (k_X4_copyFrom E (by omega) (by omega)) gX0_keep_X4_copyFrom rfl (by decide +kernel) (by decide) (ob_TB (by omega)) (Nat.le_of_ble_eq_true rfl) dX0_keep_22 ?_
    refine g_rg (fun hR22 => ?_)
    have e5 : cpT σ1 (σ1 2 (σ1 1 0)) 0 1 0 = σ1 1 0 := cpT_1 (by omega) (by omega)
    refine g_aload0 X dX0_keep_25 ?_
    refine g_dup X dX0_keep_26 rfl ?_
    refine gf_0_size X i0 (by decide +kernel) dX0_keep_27 ?_
    refine g_iconst X dX0_keep_30 ?_
    refine g_iadd X dX0_keep_31 ?_
    refine gp_0_size X i0 (by decide +kernel) (by first | exact hR22 _ _ | exact hR1 _ _ | assumption | (unfold InR; omega)) dX0_keep_32 ?_
    refine g_rg (fun hR32 => ?_)
    skip
    exact g_vretW X hr (by rw [hs] at e5 ⊢; rw [e5]; rfl) dX0_keep_35
  refine g_aload0 X dX0_keep_0 ?_
  refine gf_0_size X i0 (by decide +kernel) dX0_keep_1 ?_
  refine g_iconst X dX0_keep_4 ?_
  refine g_icmp_ne (tgt := 12) X (by first | exact hR0 _ _ | assumption | (unfold InR; omega)) (by first | exact hR0 _ _ | assumption | (unfold InR; omega)) dX0_keep_5 (by decide) (fun h5 => ?_) (fun h5 => ?_)
  · skip
    exact J12 _ (by first | (unfold kp0; rw [if_pos (by omega)]) | (unfold kp0; rw [if_neg (by omega)]))
  · skip
    refine g_aload0 X dX0_keep_8 ?_
    refine g_W0 X (k_X0_dropOldest E hHP (by omega)) gX0_keep_X0_dropOldest rfl (by decide +kernel) (by decide) ob_1 (Nat.le_of_ble_eq_true rfl) dX0_keep_9 ?_
    refine g_rg (fun hR9 => ?_)
    exact J12 _ (by first | (unfold kp0; rw [if_pos (by omega)]) | (unfold kp0; rw [if_neg (by omega)]))
end
section
/-! MY CONTRACTS: the plans -/
/-- a table's numbers are in their ranges -/
def TOK (σ : St) (t : Int) : Prop := (0 ≤ σ (TB t) 0 ∧ σ (TB t) 0 ≤ 7) ∧ (0 ≤ σ (TB t) 1 ∧ σ (TB t) 1 ≤ 7) ∧ (∀ w, 0 ≤ w → w < 7 → 0 ≤ σ (TI t) w ∧ σ (TI t) w ≤ 9999) ∧ ∀ w j, 0 ≤ w → w < 7 → 0 ≤ j → j < 7 → -1 ≤ σ (TR t w) j ∧ σ (TR t w) j ≤ 9999
/-- the least total of a list of workers, if the tasks of the set tk are gone -/
def LT (d : Int → Int) (c : Int → Int → Int) (n : Int) : List Int → Int → Int
  | [], _ => 0
  | w :: ws, tk => FI (fun a j => min a (if c w j = -1 ∨ bt tk j = 1 then 1000000 else c w j + LT d c n ws (sb tk j))) (d w + LT d c n ws tk) n
/-- the workers from m - i on that are in the set wk -/
def wl (wk m : Int) : Nat → List Int
  | 0 => []
  | i + 1 => if bt wk (m - (i + 1)) = 1 then (m - (i + 1)) :: wl wk m i else wl wk m i
theorem FI_min {f : Int → Int} {b lo : Int} (hb : lo ≤ b) (n : Nat) (hf : ∀ j : Int, 0 ≤ j → j < n → lo ≤ f j) : lo ≤ FI (fun a j => min a (f j)) b n ∧ FI (fun a j => min a (f j)) b n ≤ b := by
  induction n with
  | zero => exact ⟨hb, Int.le_refl _⟩
  | succ n ih =>
    have h1 := ih (fun j h0 hj => hf j h0 (by omega))
    have h2 := hf n (by omega) (by omega)
    have e : ((n + 1 : Nat) : Int) = (n : Int) + 1 := by omega
    rw [e, FI_s (by omega)]
    omega
theorem FI_minI {f : Int → Int} {b lo n : Int} (hn : 0 ≤ n) (hb : lo ≤ b) (hf : ∀ j : Int, 0 ≤ j → j < n → lo ≤ f j) : lo ≤ FI (fun a j => min a (f j)) b n ∧ FI (fun a j => min a (f j)) b n ≤ b := by
  obtain ⟨k, rfl⟩ := Int.eq_ofNat_of_zero_le hn
  exact FI_min hb k hf
theorem LT_b {d : Int → Int} {c : Int → Int → Int} {n : Int} (hn : 0 ≤ n) (hd : ∀ w, 0 ≤ w → w < 7 → 0 ≤ d w ∧ d w ≤ 9999) (hc : ∀ w j, 0 ≤ w → w < 7 → 0 ≤ j → j < n → -1 ≤ c w j) : ∀ (ws : List Int), (∀ w ∈ ws, 0 ≤ w ∧ w < 7) → ∀ tk, 0 ≤ LT d c n ws tk ∧ LT d c n ws tk ≤ 9999 * ws.length := by
  intro ws
  induction ws with
  | nil => intro _ tk; exact ⟨Int.le_refl _, Int.le_refl _⟩
  | cons w ws ih =>
    intro h tk
    have ih' := ih (fun v hv => h v (List.mem_cons_of_mem _ hv))
    have hw := h w List.mem_cons_self
    have h1 := ih' tk
    have h2 := hd w hw.1 hw.2
    have h3 := FI_minI (f := fun j => if c w j = -1 ∨ bt tk j = 1 then 1000000 else c w j + LT d c n ws (sb tk j)) (b := d w + LT d c n ws tk) (lo := 0) hn (by omega) (fun j h0 hj => by
      have h4 := ih' (sb tk j)
      have h5 := hc w j hw.1 hw.2 h0 hj
      show 0 ≤ (if c w j = -1 ∨ bt tk j = 1 then (1000000 : Int) else c w j + LT d c n ws (sb tk j))
      by_cases h6 : c w j = -1 ∨ bt tk j = 1
      · rw [if_pos h6]; omega
      · rw [if_neg h6]; omega)
    show 0 ≤ FI (fun a j => min a (if c w j = -1 ∨ bt tk j = 1 then 1000000 else c w j + LT d c n ws (sb tk j))) (d w + LT d c n ws tk) n ∧ _ ≤ _
    rw [List.length_cons]
    have e : ((ws.length + 1 : Nat) : Int) = (ws.length : Int) + 1 := by omega
    rw [e]
    refine ⟨h3.1, ?_⟩
    show FI (fun a j => min a (if c w j = -1 ∨ bt tk j = 1 then 1000000 else c w j + LT d c n ws (sb tk j))) (d w + LT d c n ws tk) n ≤ _
    omega
theorem wl_in {wk m : Int} : ∀ (i : Nat) (w : Int), w ∈ wl wk m i → m - i ≤ w ∧ w < m := by
  intro i
  induction i with
  | zero => intro w h; cases h
  | succ i ih =>
    intro w h
    unfold wl at h
    by_cases hb : bt wk (m - (i + 1)) = 1
    · rw [if_pos hb] at h
      rcases List.mem_cons.mp h with rfl | h
      · omega
      · have := ih w h; omega
    · rw [if_neg hb] at h
      have := ih w h; omega
theorem wl_len {wk m : Int} : ∀ (i : Nat), (wl wk m i).length ≤ i := by
  intro i
  induction i with
  | zero => exact Nat.le_refl _
  | succ i ih =>
    unfold wl
    by_cases hb : bt wk (m - (i + 1)) = 1
    · rw [if_pos hb, List.length_cons]; omega
    · rw [if_neg hb]; omega
def LTc (σ : St) (ws : List Int) (tk : Int) : Int := LT (fun w => σ (TI 0) w) (fun w j => σ (TR 0 w) j) (σ (TB 0) 1) ws tk
def RW (σ : St) (wk w tk : Int) : Int := LTc σ (wl wk (σ (TB 0) 0) (σ (TB 0) 0 - w).toNat) tk
theorem tb_lr {x : Int} (h : 0 ≤ x) : TB 0 ≠ LR x := by
  unfold TB LR
  omega
def FR (σ σ' : St) : Prop := ∀ q k, (q < 71 ∨ 79 ≤ q) → σ' q k = σ q k
def WP (σ : St) (wk : Int) (σ' : St) : Prop := FR σ σ' ∧ ∀ w tk, 0 ≤ w → w ≤ σ (TB 0) 0 → 0 ≤ tk → tk < p2 (σ (TB 0) 1) → σ' (LR w) tk = RW σ wk w tk
theorem TOK.of {σ σ' : St} (h : TOK σ 0) (hf : FR σ σ') : TOK σ' 0 := by
  have e : ∀ q k, q < 71 → σ' q k = σ q k := fun q k hq => hf q k (Or.inl hq)
  refine ⟨?_, ?_, fun w h1 h2 => ?_, fun w j h1 h2 h3 h4 => ?_⟩
  · rw [e _ _ (by unfold TB; omega)]; exact h.1
  · rw [e _ _ (by unfold TB; omega)]; exact h.2.1
  · rw [e _ _ (by unfold TI; omega)]; exact h.2.2.1 w h1 h2
  · rw [e _ _ (by unfold TR; omega)]; exact h.2.2.2 w j h1 h2 h3 h4
theorem RW_b {σ : St} (hT : TOK σ 0) (wk w tk : Int) (hw : 0 ≤ w) : 0 ≤ RW σ wk w tk ∧ RW σ wk w tk ≤ 69993 := by
  have h := LT_b (d := fun w => σ (TI 0) w) (c := fun w j => σ (TR 0 w) j) (n := σ (TB 0) 1) hT.2.1.1 hT.2.2.1 (fun w j h1 h2 h3 h4 => (hT.2.2.2 w j h1 h2 h3 (by have := hT.2.1; omega)).1) (wl wk (σ (TB 0) 0) (σ (TB 0) 0 - w).toNat) (fun v hv => by
    have := wl_in _ v hv
    have := hT.1
    omega) tk
  have h2 := wl_len (wk := wk) (m := σ (TB 0) 0) (σ (TB 0) 0 - w).toNat
  have := hT.1
  refine ⟨h.1, Int.le_trans h.2 ?_⟩
  omega
theorem RW_end {σ : St} {wk tk : Int} : RW σ wk (σ (TB 0) 0) tk = 0 := by
  unfold RW
  rw [Int.sub_self]
  rfl
theorem RW_step {σ : St} {wk w tk : Int} (hw : 0 ≤ w ∧ w < σ (TB 0) 0) : RW σ wk w tk = if bt wk w = 1 then FI (fun a j => min a (if σ (TR 0 w) j = -1 ∨ bt tk j = 1 then 1000000 else σ (TR 0 w) j + RW σ wk (w + 1) (sb tk j))) (σ (TI 0) w + RW σ wk (w + 1) tk) (σ (TB 0) 1) else RW σ wk (w + 1) tk := by
  have e : (σ (TB 0) 0 - w).toNat = (σ (TB 0) 0 - (w + 1)).toNat + 1 := by omega
  have e2 : σ (TB 0) 0 - (((σ (TB 0) 0 - (w + 1)).toNat : Int) + 1) = w := by omega
  have e3 : wl wk (σ (TB 0) 0) (σ (TB 0) 0 - w).toNat = if bt wk w = 1 then w :: wl wk (σ (TB 0) 0) (σ (TB 0) 0 - (w + 1)).toNat else wl wk (σ (TB 0) 0) (σ (TB 0) 0 - (w + 1)).toNat := by
    rw [e]
    show (if bt wk (σ (TB 0) 0 - (((σ (TB 0) 0 - (w + 1)).toNat : Int) + 1)) = 1 then _ :: _ else _) = _
    rw [e2]
  unfold RW
  rw [e3]
  by_cases hb : bt wk w = 1
  · rw [if_pos hb, if_pos hb]
    rfl
  · rw [if_neg hb, if_neg hb]
def tF (σ : St) (w j tk : Int) : Int := if σ (TR 0 w) j = -1 ∨ bt tk j = 1 then 1000000 else σ (TR 0 w) j + σ (LR (w + 1)) (sb tk j)
def lF (σ : St) (w tk i : Int) : Int := FI (fun a j => min a (tF σ w j tk)) (σ (TI 0) w + σ (LR (w + 1)) tk) i
theorem lF_s {σ : St} {w tk i : Int} (h : 0 ≤ i) : lF σ w tk (i + 1) = min (lF σ w tk i) (tF σ w i tk) := FI_s h
theorem FI_congr {f g : Int → Int → Int} {b : Int} : ∀ (n : Nat), (∀ a j : Int, 0 ≤ j → j < (n : Int) → f a j = g a j) → FI f b n = FI g b n := by
  intro n
  induction n with
  | zero => intro _; rfl
  | succ n ih =>
    intro h
    have e : ((n + 1 : Nat) : Int) = (n : Int) + 1 := by omega
    rw [e, FI_s (by omega), FI_s (by omega), ih (fun a j h0 hj => h a j h0 (by omega))]
    exact h _ _ (by omega) (by omega)
theorem FI_congrI {f g : Int → Int → Int} {b n : Int} (hn : 0 ≤ n) (h : ∀ a j, 0 ≤ j → j < n → f a j = g a j) : FI f b n = FI g b n := by
  obtain ⟨k, rfl⟩ := Int.eq_ofNat_of_zero_le hn
  exact FI_congr k h
/-- the rows' bound that the pure methods want -/
def LB (σ : St) (w : Int) : Prop := ∀ k, 0 ≤ k → k < p2 (σ (TB 0) 1) → 0 ≤ σ (LR w) k ∧ σ (LR w) k ≤ 70000
theorem p2_n {n : Int} (h : 0 ≤ n ∧ n ≤ 7) : 1 ≤ p2 n ∧ p2 n ≤ 128 := by
  have h1 := p2_k (k := n) (by omega)
  have h2 := p2_lt (k := n) (n := 8) h.1 (by omega) (by omega)
  have h3 : p2 8 = 256 := rfl
  omega
set_option maxHeartbeats 4000000 in
set_option maxRecDepth 100000 in
theorem k_X1_totalFrom (E0 : EV) {ad : Int → Nat} {σ : St} {w j tk : Int} (hw : 0 ≤ w ∧ w < 7) (hj : 0 ≤ j ∧ j < σ (TB 0) 1 ∧ σ (TB 0) 1 ≤ 7) (htk : 0 ≤ tk ∧ tk < p2 (σ (TB 0) 1)) (hc : -1 ≤ σ (TR 0 w) j ∧ σ (TR 0 w) j ≤ 9999) (hLb : LB σ (w + 1)) : MGE E0 yX1_totalFrom wsX1_totalFrom 0 0 ad σ [.ref (ad 3), .int (iI w), .int (iI j), .int (iI tk)] (PF (tF σ w j tk) σ) := by
  refine MGE.of (cc := cX1_totalFrom) (maxL := 5) (ret := (some .int)) (own := RX1) [some (.ref (ad 3)), some (.int (iI w)), some (.int (iI j)), some (.int (iI tk)), none] (by decide +kernel) rfl rfl (Nat.le_of_ble_eq_true rfl) rfl rfl (fun E X hr => ?_)
  have i1 : ∀ w ∈ wsX10, w ∈ wsX1_totalFrom := by decide +kernel
  have i4 : ∀ w ∈ wsX40, w ∈ wsX1_totalFrom := by decide +kernel
  refine g_rg (fun hR0 => ?_)
  have hp := p2_n (n := σ (TB 0) 1) (by omega)
  have hs := sb_lt (n := σ (TB 0) 1) htk (k := j) (by omega) (by omega)
  have hL2 := hLb (sb tk j) hs.1 hs.2
  have hq : 0 ≤ tk / p2 j ∧ tk / p2 j < 256 := by
    have h1 := p2_k (k := j) (by omega)
    exact ⟨Int.ediv_nonneg htk.1 (by omega), Int.lt_of_le_of_lt (Int.ediv_le_self _ htk.1) (by omega)⟩
  have hb1 : tk / p2 j % 2 = bt tk j := rfl
  refine g_aload0 X dX1_totalFrom_0 ?_
  refine gf_1_table X i1 (by decide +kernel) dX1_totalFrom_1 ?_
  refine gf_4_costs X (by omega) i4 (by decide +kernel) dX1_totalFrom_4 ?_
  refine g_iload1 X dX1_totalFrom_7 ?_
  refine g_aald_TC X (by omega) (by omega) dX1_totalFrom_8 ?_
  refine g_iload2 X dX1_totalFrom_9 ?_
  refine g_iald X (ia_TR (by omega) (by omega) (by omega)) dX1_totalFrom_10 ?_
  refine g_istore4 X dX1_totalFrom_11 (by decide) (by first | exact Or.inl rfl | exact Or.inr ⟨_, rfl, rfl⟩) ?_
  refine g_iload4 X dX1_totalFrom_13 ?_
  refine g_iconst X dX1_totalFrom_15 ?_
  refine g_icmp_eq (tgt := 28) X (by first | exact hR0 _ _ | assumption | (unfold InR; omega)) (by first | exact hR0 _ _ | assumption | (unfold InR; omega)) dX1_totalFrom_16 (by decide) (fun h16 => ?_) (fun h16 => ?_)
  · skip
    refine g_ldc X (z := 1000000) (by decide +kernel) rfl dX1_totalFrom_28 ?_
    exact g_iretF X hr (by first | exact hR0 _ _ | assumption | (unfold InR; omega)) ⟨by first | (unfold tF; rw [if_pos (by omega)]; done) | (unfold tF; rw [if_neg (by omega)]; done), rfl⟩ dX1_totalFrom_30
  · skip
    refine g_iload3 X dX1_totalFrom_19 ?_
    refine g_iload2 X dX1_totalFrom_20 ?_
    refine g_ishr X (b_shr (by omega) (by omega)) dX1_totalFrom_21 ?_
    refine g_iconst X dX1_totalFrom_22 ?_
    refine g_iand X (b_and1 (by omega)) dX1_totalFrom_23 ?_
    refine g_iconst X dX1_totalFrom_24 ?_
    refine g_icmp_ne (tgt := 31) X (by first | exact hR0 _ _ | assumption | (unfold InR; omega)) (by first | exact hR0 _ _ | assumption | (unfold InR; omega)) dX1_totalFrom_25 (by decide) (fun h25 => ?_) (fun h25 => ?_)
    · skip
      refine g_iload4 X dX1_totalFrom_31 ?_
      refine g_aload0 X dX1_totalFrom_33 ?_
      refine gf_1_least X i1 (by decide +kernel) dX1_totalFrom_34 ?_
      refine g_iload1 X dX1_totalFrom_37 ?_
      refine g_iconst X dX1_totalFrom_38 ?_
      refine g_iadd X dX1_totalFrom_39 ?_
      refine g_aald_5 X (by omega) dX1_totalFrom_40 ?_
      refine g_iload3 X dX1_totalFrom_41 ?_
      refine g_iconst X dX1_totalFrom_42 ?_
      refine g_iload2 X dX1_totalFrom_43 ?_
      refine g_ishl X (b_shl (by omega)) dX1_totalFrom_44 ?_
      refine g_ior X (b_or (by omega) (by omega)) dX1_totalFrom_45 ?_
      refine g_iald X (ia_LR (by omega) (by omega)) dX1_totalFrom_46 ?_
      refine g_iadd X dX1_totalFrom_47 ?_
      exact g_iretF X hr (by first | exact hR0 _ _ | assumption | (unfold InR; omega)) ⟨by first | (unfold tF; rw [if_pos (by omega)]; done) | (unfold tF; rw [if_neg (by omega)]; done), rfl⟩ dX1_totalFrom_48
    · skip
      refine g_ldc X (z := 1000000) (by decide +kernel) rfl dX1_totalFrom_28 ?_
      exact g_iretF X hr (by first | exact hR0 _ _ | assumption | (unfold InR; omega)) ⟨by first | (unfold tF; rw [if_pos (by omega)]; done) | (unfold tF; rw [if_neg (by omega)]; done), rfl⟩ dX1_totalFrom_30

set_option maxHeartbeats 4000000 in
set_option maxRecDepth 100000 in
theorem k_X1_leastFrom (E0 : EV) {ad : Int → Nat} {σ : St} {w tk : Int} (hT0 : TOK σ 0) (hw : 0 ≤ w ∧ w < 7) (htk : 0 ≤ tk ∧ tk < p2 (σ (TB 0) 1)) (hLb : LB σ (w + 1)) : MGE E0 yX1_leastFrom wsX1_leastFrom 1 24 ad σ [.ref (ad 3), .int (iI w), .int (iI tk)] (PF (lF σ w tk (σ (TB 0) 1)) σ) := by
  refine MGE.of (cc := cX1_leastFrom) (maxL := 5) (ret := (some .int)) (own := RX1) [some (.ref (ad 3)), some (.int (iI w)), some (.int (iI tk)), none, none] (by decide +kernel) rfl rfl (Nat.le_of_ble_eq_true rfl) rfl rfl (fun E X hr => ?_)
  have i1 : ∀ w ∈ wsX10, w ∈ wsX1_leastFrom := by decide +kernel
  have i4 : ∀ w ∈ wsX40, w ∈ wsX1_leastFrom := by decide +kernel
  refine g_rg (fun hR0 => ?_)
  have hn := hT0.2.1
  have hd := hT0.2.2.1 w hw.1 hw.2
  have hp := p2_n (n := σ (TB 0) 1) hn
  have hL2 := hLb tk htk.1 htk.2
  refine g_aload0 X dX1_leastFrom_0 ?_
  refine gf_1_table X i1 (by decide +kernel) dX1_leastFrom_1 ?_
  refine gf_4_idleCosts X (by omega) i4 (by decide +kernel) dX1_leastFrom_4 ?_
  refine g_iload1 X dX1_leastFrom_7 ?_
  refine g_iald X (ia_TI (by omega) (by omega)) dX1_leastFrom_8 ?_
  refine g_aload0 X dX1_leastFrom_9 ?_
  refine gf_1_least X i1 (by decide +kernel) dX1_leastFrom_10 ?_
  refine g_iload1 X dX1_leastFrom_13 ?_
  refine g_iconst X dX1_leastFrom_14 ?_
  refine g_iadd X dX1_leastFrom_15 ?_
  refine g_aald_5 X (by omega) dX1_leastFrom_16 ?_
  refine g_iload2 X dX1_leastFrom_17 ?_
  refine g_iald X (ia_LR (by omega) (by omega)) dX1_leastFrom_18 ?_
  refine g_iadd X dX1_leastFrom_19 ?_
  refine g_istore3 X dX1_leastFrom_20 (by decide) (by first | exact Or.inl rfl | exact Or.inr ⟨_, rfl, rfl⟩) ?_
  refine g_iconst X dX1_leastFrom_21 ?_
  refine g_istore4 X dX1_leastFrom_22 (by decide) (by first | exact Or.inl rfl | exact Or.inr ⟨_, rfl, rfl⟩) ?_
  have L24 : ∀ (n24 : Nat) (i a : Int), (σ (TB 0) 1 - i).toNat < n24 → (0 ≤ i ∧ i ≤ σ (TB 0) 1) → (-1 ≤ a ∧ a ≤ 80000) → (a = lF σ w tk i) → WG E ad 5 σ 24 [some (.ref (ad 3)), some (.int (iI w)), some (.int (iI tk)), some (.int (iI a)), some (.int (iI i))] [] := by
    intro n24
    induction n24 with
    | zero => intro i a hn; exact absurd hn (Nat.not_lt_zero _)
    | succ n24 ih24 =>
      intro i a hn24 hi ha hs
      refine g_rg (fun hRL24 => ?_)
      refine g_iload4 X dX1_leastFrom_24 ?_
      refine g_aload0 X dX1_leastFrom_26 ?_
      refine gf_1_table X i1 (by decide +kernel) dX1_leastFrom_27 ?_
      refine gf_4_tasks X (by omega) i4 (by decide +kernel) dX1_leastFrom_30 ?_
      refine g_icmp_ge (tgt := 55) X (by first | exact hRL24 _ _ | exact hR0 _ _ | assumption | (unfold InR; omega)) (by first | exact hRL24 _ _ | exact hR0 _ _ | assumption | (unfold InR; omega)) dX1_leastFrom_33 (by decide) (fun h33 => ?_) (fun h33 => ?_)
      · skip
        refine g_iload3 X dX1_leastFrom_55 ?_
        exact g_iretF X hr (by first | exact hRL24 _ _ | exact hR0 _ _ | assumption | (unfold InR; omega)) ⟨by rw [hs]; congr 1; omega, rfl⟩ dX1_leastFrom_56
      · skip
        have hc := hT0.2.2.2 w i hw.1 hw.2 hi.1 (by omega)
        have hs9 := sb_lt (n := σ (TB 0) 1) htk (k := i) (by omega) (by omega)
        have hL3 := hLb (sb tk i) hs9.1 hs9.2
        have htF : -1 ≤ tF σ w i tk ∧ tF σ w i tk ≤ 1000000 := by
          unfold tF
          by_cases h9 : σ (TR 0 w) i = -1 ∨ bt tk i = 1
          · rw [if_pos h9]; omega
          · rw [if_neg h9]; omega
        refine g_iload3 X dX1_leastFrom_36 ?_
        refine g_aload0 X dX1_leastFrom_37 ?_
        refine g_iload1 X dX1_leastFrom_38 ?_
        refine g_iload4 X dX1_leastFrom_39 ?_
        refine g_iload2 X dX1_leastFrom_41 ?_
        refine g_F3 X (k_X1_totalFrom E (by omega) (by omega) (by omega) (by omega) hLb) gX1_leastFrom_X1_totalFrom rfl (by decide +kernel) (by decide) ob_3 (Nat.le_of_ble_eq_true rfl) dX1_leastFrom_42 (fun hz42 => ?_)
        refine g_rg (fun hR42 => ?_)
        refine g_min X (by first | exact hR42 _ _ | exact hRL24 _ _ | exact hR0 _ _ | assumption | (unfold InR; omega)) (by first | exact hR42 _ _ | exact hRL24 _ _ | exact hR0 _ _ | assumption | (unfold InR; omega)) (by decide +kernel) (by decide +kernel) (by decide +kernel) (by decide +kernel) (by decide) (Nat.le_of_ble_eq_true rfl) dX1_leastFrom_45 ?_
        refine g_istore3 X dX1_leastFrom_48 (by decide) (by first | exact Or.inl rfl | exact Or.inr ⟨_, rfl, rfl⟩) ?_
        refine g_iinc4 X dX1_leastFrom_49 (by decide) (by first | exact Or.inl rfl | exact Or.inr ⟨_, rfl, rfl⟩) ?_
        refine g_goto (tgt := 24) X dX1_leastFrom_52 (by decide) ?_
        refine ih24 _ _ (by omega) ?_ ?_ ?_
        · omega
        · omega
        · rw [hs]
          exact (lF_s hi.1).symm
  refine L24 _ _ _ (Nat.lt_succ_self _) ?_ ?_ ?_
  · omega
  · omega
  · rfl

set_option maxHeartbeats 4000000 in
set_option maxRecDepth 100000 in
theorem k_X1_weigh (E0 : EV) {ad : Int → Nat} {σ : St} {wk : Int} (hT0 : TOK σ 0) (hwk : 0 ≤ wk ∧ wk < 256) : MGE E0 yX1_weigh wsX1_weigh 2 48 ad σ [.ref (ad 3), .int (iI wk)] (PV (fun σ' => WP σ wk σ')) := by
  refine MGE.of (cc := cX1_weigh) (maxL := 6) (ret := none) (own := RX1) [some (.ref (ad 3)), some (.int (iI wk)), none, none, none, none] (by decide +kernel) rfl rfl (Nat.le_of_ble_eq_true rfl) rfl rfl (fun E X hr => ?_)
  have i1 : ∀ w ∈ wsX10, w ∈ wsX1_weigh := by decide +kernel
  have i4 : ∀ w ∈ wsX40, w ∈ wsX1_weigh := by decide +kernel
  refine g_rg (fun hR0 => ?_)
  have hn := hT0.2.1
  have hm := hT0.1
  have hp := p2_n (n := σ (TB 0) 1) hn
  refine g_iconst X dX1_weigh_0 ?_
  refine g_aload0 X dX1_weigh_1 ?_
  refine gf_1_table X i1 (by decide +kernel) dX1_weigh_2 ?_
  refine gf_4_tasks X (by omega) i4 (by decide +kernel) dX1_weigh_5 ?_
  refine g_ishl X (b_shl (by omega)) dX1_weigh_8 ?_
  refine g_istore2 X dX1_weigh_9 (by decide) (by first | exact Or.inl rfl | exact Or.inr ⟨_, rfl, rfl⟩) ?_
  refine g_iconst X dX1_weigh_10 ?_
  refine g_istore3 X dX1_weigh_11 (by decide) (by first | exact Or.inl rfl | exact Or.inr ⟨_, rfl, rfl⟩) ?_
  have L12 : ∀ (n12 : Nat) (i : Int) (σ1 : St) (u4 u5 : Option Value), (p2 (σ (TB 0) 1) - i).toNat < n12 → (0 ≤ i ∧ i ≤ p2 (σ (TB 0) 1)) → (∀ q k, q ≠ LR (σ (TB 0) 0) → σ1 q k = σ q k) → (∀ k, 0 ≤ k → k < i → σ1 (LR (σ (TB 0) 0)) k = 0) → WG E ad 6 σ1 12 [some (.ref (ad 3)), some (.int (iI wk)), some (.int (iI (p2 (σ (TB 0) 1)))), some (.int (iI i)), u4, u5] [] := by
    intro n12
    induction n12 with
    | zero => intro i σ1 u4 u5 hn; exact absurd hn (Nat.not_lt_zero _)
    | succ n12 ih12 =>
      intro i σ1 u4 u5 hn12 hi hf hz
      refine g_rg (fun hRL12 => ?_)
      have e0 : σ1 (TB 0) 0 = σ (TB 0) 0 := hf _ _ (tb_lr hm.1)
      refine g_iload3 X dX1_weigh_12 ?_
      refine g_iload2 X dX1_weigh_13 ?_
      refine g_icmp_ge (tgt := 38) X (by first | exact hRL12 _ _ | exact hR0 _ _ | assumption | (unfold InR; omega)) (by first | exact hRL12 _ _ | exact hR0 _ _ | assumption | (unfold InR; omega)) dX1_weigh_14 (by decide) (fun h14 => ?_) (fun h14 => ?_)
      · skip
        have e0 : σ1 (TB 0) 0 = σ (TB 0) 0 := hf _ _ (tb_lr hm.1)
        refine g_aload0 X dX1_weigh_38 ?_
        refine gf_1_table X i1 (by decide +kernel) dX1_weigh_39 ?_
        refine gf_4_workers X (by omega) i4 (by decide +kernel) dX1_weigh_42 ?_
        refine g_iconst X dX1_weigh_45 ?_
        refine g_isub X dX1_weigh_46 ?_
        refine g_istore3 X dX1_weigh_47 (by decide) (by first | exact Or.inl rfl | exact Or.inr ⟨_, rfl, rfl⟩) ?_
        have L48 : ∀ (n48 : Nat) (w : Int) (σ1 : St) (u4 u5 : Option Value), (w + 1).toNat < n48 → (-1 ≤ w ∧ w < σ (TB 0) 0) → (FR σ σ1) → (∀ v k, w < v → v ≤ σ (TB 0) 0 → 0 ≤ k → k < p2 (σ (TB 0) 1) → σ1 (LR v) k = RW σ wk v k) → WG E ad 6 σ1 48 [some (.ref (ad 3)), some (.int (iI wk)), some (.int (iI (p2 (σ (TB 0) 1)))), some (.int (iI w)), u4, u5] [] := by
          intro n48
          induction n48 with
          | zero => intro w σ1 u4 u5 hn; exact absurd hn (Nat.not_lt_zero _)
          | succ n48 ih48 =>
            intro w σ1 u4 u5 hn48 hw hF hrw
            refine g_rg (fun hRL48 => ?_)
            refine g_iload3 X dX1_weigh_48 ?_
            refine g_if_lt (tgt := 124) X (by first | exact hRL48 _ _ | exact hRL12 _ _ | exact hR0 _ _ | assumption | (unfold InR; omega)) dX1_weigh_49 (by decide) (fun h49 => ?_) (fun h49 => ?_)
            · skip
              exact g_vret X hr ⟨hF, fun v k h1 h2 h3 h4 => hrw v k (by omega) h2 h3 h4⟩ dX1_weigh_124
            · skip
              have hq : 0 ≤ wk / p2 w ∧ wk / p2 w < 256 := by
                have h1 := p2_k (k := w) (by omega)
                exact ⟨Int.ediv_nonneg hwk.1 (by omega), Int.lt_of_le_of_lt (Int.ediv_le_self _ hwk.1) (by omega)⟩
              have hb1 : wk / p2 w % 2 = bt wk w := rfl
              have hb01 := bt_01 wk w
              have J66 : ∀ b : Int, b = bt wk w → WG E ad 6 σ1 66 [some (.ref (ad 3)), some (.int (iI wk)), some (.int (iI (p2 (σ (TB 0) 1)))), some (.int (iI w)), u4, u5] [.int (iI b)] := by
                intro b hb
                refine g_istore4 X dX1_weigh_66 (by decide) (by first | exact Or.inl rfl | exact Or.inr ⟨_, rfl, rfl⟩) ?_
                refine g_iconst X dX1_weigh_68 ?_
                refine g_istore5 X dX1_weigh_69 (by decide) (by first | exact Or.inl rfl | exact Or.inr ⟨_, rfl, rfl⟩) ?_
                have L71 : ∀ (n71 : Nat) (tk : Int) (σ2 : St), (p2 (σ (TB 0) 1) - tk).toNat < n71 → (0 ≤ tk ∧ tk ≤ p2 (σ (TB 0) 1)) → (FR σ σ2) → (∀ v k, w < v → v ≤ σ (TB 0) 0 → 0 ≤ k → k < p2 (σ (TB 0) 1) → σ2 (LR v) k = RW σ wk v k) → (∀ k, 0 ≤ k → k < tk → σ2 (LR w) k = RW σ wk w k) → WG E ad 6 σ2 71 [some (.ref (ad 3)), some (.int (iI wk)), some (.int (iI (p2 (σ (TB 0) 1)))), some (.int (iI w)), some (.int (iI b)), some (.int (iI tk))] [] := by
                  intro n71
                  induction n71 with
                  | zero => intro tk σ2 hn; exact absurd hn (Nat.not_lt_zero _)
                  | succ n71 ih71 =>
                    intro tk σ2 hn71 hi2 hF2 hr2 hz2
                    refine g_rg (fun hRL71 => ?_)
                    have e20 : σ2 (TB 0) 0 = σ (TB 0) 0 := hF2 _ _ (by unfold TB; omega)
                    have e21 : σ2 (TB 0) 1 = σ (TB 0) 1 := hF2 _ _ (by unfold TB; omega)
                    refine g_iload5 X dX1_weigh_71 ?_
                    refine g_iload2 X dX1_weigh_73 ?_
                    refine g_icmp_ge (tgt := 118) X (by first | exact hRL71 _ _ | exact hRL48 _ _ | exact hRL12 _ _ | exact hR0 _ _ | assumption | (unfold InR; omega)) (by first | exact hRL71 _ _ | exact hRL48 _ _ | exact hRL12 _ _ | exact hR0 _ _ | assumption | (unfold InR; omega)) dX1_weigh_74 (by decide) (fun h74 => ?_) (fun h74 => ?_)
                    · skip
                      refine g_iinc3 X dX1_weigh_118 (by decide) (by first | exact Or.inl rfl | exact Or.inr ⟨_, rfl, rfl⟩) ?_
                      refine g_goto (tgt := 48) X dX1_weigh_121 (by decide) ?_
                      refine ih48 _ _ _ _ (by omega) ?_ ?_ ?_
                      · omega
                      · exact hF2
                      · intro v k h1 h2 h3 h4
                        by_cases hv : v = w
                        · rw [hv]
                          exact hz2 k h3 (by omega)
                        · exact hr2 v k (by omega) h2 h3 h4
                    · skip
                      have hTk : TOK σ2 0 := hT0.of hF2
                      have hLb : LB σ2 (w + 1) := fun k h1 h2 => by
                        rw [e21] at h2
                        rw [hr2 (w + 1) k (by omega) (by omega) h1 h2]
                        have := RW_b hT0 wk (w + 1) k (by omega)
                        omega
                      have e22 : p2 (σ2 (TB 0) 1) = p2 (σ (TB 0) 1) := by rw [e21]
                      have e9 : ∀ a j : Int, 0 ≤ j → j < σ (TB 0) 1 → min a (tF σ2 w j tk) = min a (if σ (TR 0 w) j = -1 ∨ bt tk j = 1 then 1000000 else σ (TR 0 w) j + RW σ wk (w + 1) (sb tk j)) := fun a j h1 h2 => by
                        have hs := sb_lt (n := σ (TB 0) 1) (m := tk) (by omega) (k := j) (by omega) (by omega)
                        unfold tF
                        rw [hF2 (TR 0 w) j (by unfold TR; omega), hr2 (w + 1) (sb tk j) (by omega) (by omega) hs.1 hs.2]
                      have J111 : ∀ v : Int, v = RW σ wk w tk → WG E ad 6 σ2 111 [some (.ref (ad 3)), some (.int (iI wk)), some (.int (iI (p2 (σ (TB 0) 1)))), some (.int (iI w)), some (.int (iI b)), some (.int (iI tk))] [.int (iI v), .int (iI tk), .ref (ad (LR w))] := by
                        intro v hv
                        have hvb := RW_b hT0 wk w tk (by omega)
                        refine g_iast X (ia_LR (by omega) (by omega)) (by first | exact hRL71 _ _ | exact hRL48 _ _ | exact hRL12 _ _ | exact hR0 _ _ | assumption | (unfold InR; omega)) dX1_weigh_111 ?_
                        refine g_rg (fun hR111 => ?_)
                        refine g_iinc5 X dX1_weigh_112 (by decide) (by first | exact Or.inl rfl | exact Or.inr ⟨_, rfl, rfl⟩) ?_
                        refine g_goto (tgt := 71) X dX1_weigh_115 (by decide) ?_
                        refine ih71 _ _ (by omega) ?_ ?_ ?_ ?_
                        · omega
                        · intro q k hq
                          unfold up
                          rw [if_neg (by unfold LR; omega)]
                          exact hF2 q k hq
                        · intro v k h1 h2 h3 h4
                          unfold up
                          rw [if_neg (by unfold LR; omega)]
                          exact hr2 v k h1 h2 h3 h4
                        · intro k h1 h2
                          unfold up
                          by_cases hk : k = tk
                          · rw [if_pos ⟨rfl, hk⟩, hv, hk]
                          · rw [if_neg (fun h => hk h.2)]
                            exact hz2 k h1 (by omega)
                      refine g_aload0 X dX1_weigh_77 ?_
                      refine gf_1_least X i1 (by decide +kernel) dX1_weigh_78 ?_
                      refine g_iload3 X dX1_weigh_81 ?_
                      refine g_aald_5 X (by omega) dX1_weigh_82 ?_
                      refine g_iload5 X dX1_weigh_83 ?_
                      refine g_iload4 X dX1_weigh_85 ?_
                      refine g_if_eq (tgt := 100) X (by first | exact hRL71 _ _ | exact hRL48 _ _ | exact hRL12 _ _ | exact hR0 _ _ | assumption | (unfold InR; omega)) dX1_weigh_87 (by decide) (fun h87 => ?_) (fun h87 => ?_)
                      · skip
                        refine g_aload0 X dX1_weigh_100 ?_
                        refine gf_1_least X i1 (by decide +kernel) dX1_weigh_101 ?_
                        refine g_iload3 X dX1_weigh_104 ?_
                        refine g_iconst X dX1_weigh_105 ?_
                        refine g_iadd X dX1_weigh_106 ?_
                        refine g_aald_5 X (by omega) dX1_weigh_107 ?_
                        refine g_iload5 X dX1_weigh_108 ?_
                        refine g_iald X (ia_LR (by omega) (by omega)) dX1_weigh_110 ?_
                        refine J111 _ ?_
                        first
                          | (rw [RW_step ⟨by omega, by omega⟩, if_pos (by omega)]
                             unfold lF
                             rw [e21, FI_congrI hn.1 e9, hF2 (TI 0) w (by unfold TI; omega), hr2 (w + 1) tk (by omega) (by omega) (by omega) (by omega)])
                          | (rw [RW_step ⟨by omega, by omega⟩, if_neg (by omega)]
                             exact hr2 (w + 1) tk (by omega) (by omega) (by omega) (by omega))
                      · skip
                        refine g_aload0 X dX1_weigh_90 ?_
                        refine g_iload3 X dX1_weigh_91 ?_
                        refine g_iload5 X dX1_weigh_92 ?_
                        refine g_F2 X (k_X1_leastFrom E hTk (by omega) (by omega) hLb) gX1_weigh_X1_leastFrom rfl (by decide +kernel) (by decide) ob_3 (Nat.le_of_ble_eq_true rfl) dX1_weigh_94 (fun hz94 => ?_)
                        refine g_rg (fun hR94 => ?_)
                        refine g_goto (tgt := 111) X dX1_weigh_97 (by decide) ?_
                        refine J111 _ ?_
                        first
                          | (rw [RW_step ⟨by omega, by omega⟩, if_pos (by omega)]
                             unfold lF
                             rw [e21, FI_congrI hn.1 e9, hF2 (TI 0) w (by unfold TI; omega), hr2 (w + 1) tk (by omega) (by omega) (by omega) (by omega)])
                          | (rw [RW_step ⟨by omega, by omega⟩, if_neg (by omega)]
                             exact hr2 (w + 1) tk (by omega) (by omega) (by omega) (by omega))
                refine L71 _ _ _ (Nat.lt_succ_self _) ?_ ?_ ?_ ?_
                · omega
                · exact hF
                · exact hrw
                · intro k h1 h2
                  omega
              refine g_iload1 X dX1_weigh_52 ?_
              refine g_iload3 X dX1_weigh_53 ?_
              refine g_ishr X (b_shr (by omega) (by omega)) dX1_weigh_54 ?_
              refine g_iconst X dX1_weigh_55 ?_
              refine g_iand X (b_and1 (by omega)) dX1_weigh_56 ?_
              refine g_iconst X dX1_weigh_57 ?_
              refine g_icmp_ne (tgt := 65) X (by first | exact hRL48 _ _ | exact hRL12 _ _ | exact hR0 _ _ | assumption | (unfold InR; omega)) (by first | exact hRL48 _ _ | exact hRL12 _ _ | exact hR0 _ _ | assumption | (unfold InR; omega)) dX1_weigh_58 (by decide) (fun h58 => ?_) (fun h58 => ?_)
              · skip
                refine g_iconst X dX1_weigh_65 ?_
                exact J66 _ (by omega)
              · skip
                refine g_iconst X dX1_weigh_61 ?_
                refine g_goto (tgt := 66) X dX1_weigh_62 (by decide) ?_
                exact J66 _ (by omega)
        refine L48 _ _ _ _ _ (Nat.lt_succ_self _) ?_ ?_ ?_
        · omega
        · intro q k hq
          exact hf q k (by unfold LR; omega)
        · intro v k h1 h2 h3 h4
          rw [show v = σ (TB 0) 0 by omega, RW_end]
          exact hz k h3 (by omega)
      · skip
        refine g_aload0 X dX1_weigh_17 ?_
        refine gf_1_least X i1 (by decide +kernel) dX1_weigh_18 ?_
        refine g_aload0 X dX1_weigh_21 ?_
        refine gf_1_table X i1 (by decide +kernel) dX1_weigh_22 ?_
        refine gf_4_workers X (by omega) i4 (by decide +kernel) dX1_weigh_25 ?_
        refine g_aald_5 X (by omega) dX1_weigh_28 ?_
        refine g_iload3 X dX1_weigh_29 ?_
        refine g_iconst X dX1_weigh_30 ?_
        refine g_iast X (ia_LR (by omega) (by omega)) (by first | exact hRL12 _ _ | exact hR0 _ _ | assumption | (unfold InR; omega)) dX1_weigh_31 ?_
        refine g_rg (fun hR31 => ?_)
        refine g_iinc3 X dX1_weigh_32 (by decide) (by first | exact Or.inl rfl | exact Or.inr ⟨_, rfl, rfl⟩) ?_
        refine g_goto (tgt := 12) X dX1_weigh_35 (by decide) ?_
        refine ih12 _ _ _ _ (by omega) ?_ ?_ ?_
        · omega
        · intro q k hq
          unfold up
          rw [e0, if_neg (fun h => hq h.1)]
          exact hf q k hq
        · intro k h1 h2
          unfold up
          rw [e0]
          by_cases hk : k = i
          · rw [if_pos ⟨rfl, hk⟩]
          · rw [if_neg (fun h => hk h.2)]
            exact hz k h1 (by omega)
  refine L12 _ _ _ _ _ (Nat.lt_succ_self _) ?_ ?_ ?_
  · omega
  · intro q k _
    rfl
  · intro k h1 h2
    omega
end
section
/-! MY CONTRACTS: the plans, what rests on the weighing -/
theorem LT_congr {d d' : Int → Int} {c c' : Int → Int → Int} {n : Int} (hn : 0 ≤ n) : ∀ (ws : List Int), (∀ w ∈ ws, d w = d' w) → (∀ w ∈ ws, ∀ j, 0 ≤ j → j < n → c w j = c' w j) → ∀ tk, LT d c n ws tk = LT d' c' n ws tk := by
  intro ws
  induction ws with
  | nil => intro _ _ tk; rfl
  | cons w ws ih =>
    intro hd hc tk
    have ih' := ih (fun v hv => hd v (List.mem_cons_of_mem _ hv)) (fun v hv => hc v (List.mem_cons_of_mem _ hv))
    show FI _ _ n = FI _ _ n
    rw [hd w List.mem_cons_self, ih' tk]
    refine FI_congrI hn (fun a j h0 hj => ?_)
    rw [hc w List.mem_cons_self j h0 hj, ih' (sb tk j)]
theorem RW_FR {σ σ' : St} (hT : TOK σ 0) (hF : FR σ σ') (wk w tk : Int) (hw : 0 ≤ w) : RW σ' wk w tk = RW σ wk w tk := by
  have e0 : σ' (TB 0) 0 = σ (TB 0) 0 := hF _ _ (by unfold TB; omega)
  have e1 : σ' (TB 0) 1 = σ (TB 0) 1 := hF _ _ (by unfold TB; omega)
  have hm := hT.1
  unfold RW LTc
  rw [e0, e1]
  refine LT_congr hT.2.1.1 _ (fun v hv => hF _ _ (by unfold TI; omega)) (fun v hv j _ _ => hF _ _ ?_) tk
  have := wl_in _ v hv
  unfold TR
  omega
theorem WP.rows {σ σ' : St} {wk : Int} (hT : TOK σ 0) (h : WP σ wk σ') (w : Int) (hw : 0 ≤ w ∧ w ≤ σ (TB 0) 0) : LB σ' w := fun k h1 h2 => by
  have e1 : σ' (TB 0) 1 = σ (TB 0) 1 := h.1 _ _ (by unfold TB; omega)
  rw [e1] at h2
  rw [h.2 w k hw.1 hw.2 h1 h2]
  have := RW_b hT wk w k hw.1
  omega
def AW (σ : St) : Int := p2 (σ (TB 0) 0) - 1
theorem AW_b {σ : St} (hT : TOK σ 0) : 0 ≤ AW σ ∧ AW σ < 128 := by
  have := p2_n hT.1
  unfold AW
  omega
def mk (j : Int) : Int := if j = -1 then 0 else p2 j
theorem mk_b {j n : Int} (hj : -1 ≤ j ∧ j < n) (hn : n ≤ 7) (h0 : 0 ≤ n) : 0 ≤ mk j ∧ mk j < p2 n := by
  unfold mk
  have h2 := p2_n (n := n) ⟨h0, hn⟩
  by_cases h : j = -1
  · rw [if_pos h]; omega
  · rw [if_neg h]
    have h1 := p2_lt (k := j) (n := n) (by omega) hj.2 (by omega)
    have h3 := p2_k (k := j) (by omega)
    omega
def tW (σ : St) (w j : Int) : Int := cW σ 0 w j + σ (LR 0) (mk j)
theorem cW_b {σ : St} (hT : TOK σ 0) {w j : Int} (hw : 0 ≤ w ∧ w < 7) (hj : -1 ≤ j ∧ j < 7) : -1 ≤ cW σ 0 w j ∧ cW σ 0 w j ≤ 9999 := by
  unfold cW
  by_cases h : j = -1
  · rw [if_pos h]; have := hT.2.2.1 w hw.1 hw.2; omega
  · rw [if_neg h]; exact hT.2.2.2 w j hw.1 hw.2 (by omega) hj.2
theorem tW_b {σ : St} (hT : TOK σ 0) (hLb : LB σ 0) {w j : Int} (hw : 0 ≤ w ∧ w < 7) (hj : -1 ≤ j ∧ j < σ (TB 0) 1) : -1 ≤ tW σ w j ∧ tW σ w j ≤ 80000 := by
  have h1 := cW_b hT hw (j := j) (by have := hT.2.1; omega)
  have h2 := mk_b hj hT.2.1.2 hT.2.1.1
  have h3 := hLb _ h2.1 h2.2
  unfold tW
  omega
def tO (σ : St) (w j i : Int) : Int := FI (fun a i => if i - 1 = j ∨ isB σ 0 w (i - 1) = 1 then a else min a (tW σ w (i - 1))) 1000000 i
theorem tO_s {σ : St} {w j i : Int} (h : 0 ≤ i) : tO σ w j (i + 1) = if i - 1 = j ∨ isB σ 0 w (i - 1) = 1 then tO σ w j i else min (tO σ w j i) (tW σ w (i - 1)) := FI_s h
/-- the same, told by the least totals -/
def tOk (σ : St) (wk w j : Int) : Int := FI (fun a i => if i - 1 = j ∨ isB σ 0 w (i - 1) = 1 then a else min a (cW σ 0 w (i - 1) + RW σ wk 0 (mk (i - 1)))) 1000000 (σ (TB 0) 1 + 1)
theorem tO_of {σ σ' : St} {wk w j : Int} (hT : TOK σ 0) (h : WP σ wk σ') (hw : 0 ≤ w ∧ w < 7) : tO σ' w j (σ' (TB 0) 1 + 1) = tOk σ wk w j := by
  have e1 : σ' (TB 0) 1 = σ (TB 0) 1 := h.1 _ _ (by unfold TB; omega)
  have hn := hT.2.1
  unfold tO tOk
  rw [e1]
  refine FI_congrI (by omega) (fun a i h0 hi => ?_)
  have hmk := mk_b (j := i - 1) (n := σ (TB 0) 1) (by omega) (by omega) (by omega)
  have eB : isB σ' 0 w (i - 1) = isB σ 0 w (i - 1) := by
    unfold isB
    rw [h.1 (TR 0 w) _ (by unfold TR; omega)]
  have eC : cW σ' 0 w (i - 1) = cW σ 0 w (i - 1) := by
    unfold cW
    rw [h.1 (TR 0 w) _ (by unfold TR; omega), h.1 (TI 0) _ (by unfold TI; omega)]
  unfold tW
  rw [eB, eC, h.2 0 _ (by omega) hT.1.1 hmk.1 hmk.2]
theorem tOk_b {σ : St} {wk w j : Int} (hT : TOK σ 0) (hw : 0 ≤ w ∧ w < 7) : -1 ≤ tOk σ wk w j ∧ tOk σ wk w j ≤ 1000000 := by
  have hn := hT.2.1
  obtain ⟨n, hn2⟩ := Int.eq_ofNat_of_zero_le (show 0 ≤ σ (TB 0) 1 + 1 by omega)
  unfold tOk
  rw [hn2]
  have hk : (n : Int) ≤ σ (TB 0) 1 + 1 := by omega
  clear hn2
  induction n with
  | zero => exact ⟨by show (-1 : Int) ≤ 1000000; omega, Int.le_refl _⟩
  | succ n ih =>
    have e : ((n + 1 : Nat) : Int) = (n : Int) + 1 := by omega
    rw [e, FI_s (by omega)]
    have ih' := ih (by omega)
    by_cases hc : (n : Int) - 1 = j ∨ isB σ 0 w ((n : Int) - 1) = 1
    · rw [if_pos hc]; exact ih'
    · rw [if_neg hc]
      have h1 := cW_b hT hw (j := (n : Int) - 1) (by omega)
      have h2 := RW_b hT wk 0 (mk ((n : Int) - 1)) (by omega)
      omega
/-- the first of n that P holds of, or -1 -/
def fsP (P : Int → Bool) (n : Int) : Nat → Int
  | 0 => -1
  | k + 1 => if P (n - (k + 1)) = true then n - (k + 1) else fsP P n k
theorem fsP_s {P : Int → Bool} {n i : Int} (hi : 0 ≤ i ∧ i < n) : fsP P n (n - i).toNat = if P i = true then i else fsP P n (n - (i + 1)).toNat := by
  have e : (n - i).toNat = (n - (i + 1)).toNat + 1 := by omega
  have e2 : n - (((n - (i + 1)).toNat : Int) + 1) = i := by omega
  rw [e]
  show (if P (n - (((n - (i + 1)).toNat : Int) + 1)) = true then n - (((n - (i + 1)).toNat : Int) + 1) else _) = _
  rw [e2]
theorem fsP_r {P : Int → Bool} {n : Int} : ∀ (k : Nat), (k : Int) ≤ n → -1 ≤ fsP P n k ∧ fsP P n k < n ∨ (fsP P n k = -1 ∧ n = 0) := by
  intro k
  induction k with
  | zero => intro h; show (-1 ≤ (-1 : Int) ∧ (-1 : Int) < n) ∨ ((-1 : Int) = -1 ∧ n = 0); omega
  | succ k ih =>
    intro h
    have ih' := ih (by omega)
    unfold fsP
    by_cases hp : P (n - (k + 1)) = true
    · rw [if_pos hp]; omega
    · rw [if_neg hp]; exact ih'
theorem fsP_congr {P Q : Int → Bool} {n : Int} : ∀ (k : Nat), (k : Int) ≤ n → (∀ j, 0 ≤ j → j < n → P j = Q j) → fsP P n k = fsP Q n k := by
  intro k
  induction k with
  | zero => intro _ _; rfl
  | succ k ih =>
    intro h hP
    unfold fsP
    rw [hP _ (by omega) (by omega), ih (by omega) hP]
def fB (σ : St) (w tk : Int) : Int := fsP (fun j => decide (tF σ w j tk = σ (LR w) tk)) (σ (TB 0) 1) (σ (TB 0) 1).toNat
/-- the first plan, told by the least totals: the task of w, if tk are gone -/
def tFm (σ : St) (wk w j tk : Int) : Int := if σ (TR 0 w) j = -1 ∨ bt tk j = 1 then 1000000 else σ (TR 0 w) j + RW σ wk (w + 1) (sb tk j)
def fpk (σ : St) (w tk : Int) : Int := fsP (fun j => decide (tFm σ (AW σ) w j tk = RW σ (AW σ) w tk)) (σ (TB 0) 1) (σ (TB 0) 1).toNat
def tkS (σ : St) (i : Int) : Int := FI (fun tk w => if fpk σ w tk = -1 then tk else sb tk (fpk σ w tk)) 0 i
theorem tkS_s {σ : St} {i : Int} (h : 0 ≤ i) : tkS σ (i + 1) = if fpk σ i (tkS σ i) = -1 then tkS σ i else sb (tkS σ i) (fpk σ i (tkS σ i)) := FI_s h
def fP (σ : St) (w : Int) : Int := fpk σ w (tkS σ w)
theorem fpk_r {σ : St} (hT : TOK σ 0) (w tk : Int) : -1 ≤ fpk σ w tk ∧ (fpk σ w tk < σ (TB 0) 1 ∨ fpk σ w tk = -1) := by
  have := fsP_r (P := fun j => decide (tFm σ (AW σ) w j tk = RW σ (AW σ) w tk)) (n := σ (TB 0) 1) (σ (TB 0) 1).toNat (by have := hT.2.1; omega)
  unfold fpk
  omega
theorem fB_of {σ σ' : St} {w tk : Int} (hT : TOK σ 0) (hF : ∀ q k, q < 71 → q ≠ 3 → q ≠ 4 → σ' q k = σ q k) (hr : ∀ w tk, 0 ≤ w → w ≤ σ (TB 0) 0 → 0 ≤ tk → tk < p2 (σ (TB 0) 1) → σ' (LR w) tk = RW σ (AW σ) w tk) (hw : 0 ≤ w ∧ w < σ (TB 0) 0) (htk : 0 ≤ tk ∧ tk < p2 (σ (TB 0) 1)) : fB σ' w tk = fpk σ w tk := by
  have e1 : σ' (TB 0) 1 = σ (TB 0) 1 := hF _ _ (by unfold TB; omega) (by unfold TB; omega) (by unfold TB; omega)
  have hn := hT.2.1
  have hm := hT.1
  unfold fB fpk
  rw [e1]
  refine fsP_congr _ (by omega) (fun j h1 h2 => ?_)
  have hs := sb_lt (n := σ (TB 0) 1) htk (k := j) (by omega) (by omega)
  have e2 : tF σ' w j tk = tFm σ (AW σ) w j tk := by
    unfold tF tFm
    rw [hF (TR 0 w) j (by unfold TR; omega) (by unfold TR; omega) (by unfold TR; omega), hr (w + 1) (sb tk j) (by omega) (by omega) hs.1 hs.2]
  rw [e2, hr w tk (by omega) (by omega) htk.1 htk.2]
def CH (σ σ' : St) : Prop := (∀ q k, q ≠ 3 → q ≠ 4 → (q < 71 ∨ 79 ≤ q) → σ' q k = σ q k) ∧ σ' 3 1 = RW σ (AW σ) 0 0 ∧ ∀ w, 0 ≤ w → w < σ (TB 0) 0 → σ' 4 w = fP σ w
def cP (σ : St) (i : Int) : Int := FI (fun a w => if σ 4 w = -1 then a else a + 1) 0 i
theorem cP_s {σ : St} {i : Int} (h : 0 ≤ i) : cP σ (i + 1) = if σ 4 i = -1 then cP σ i else cP σ i + 1 := FI_s h
/-- a chosen plan is there -/
def CHP (σ : St) : Prop := (0 ≤ σ 3 1 ∧ σ 3 1 ≤ 70000) ∧ ∀ w, 0 ≤ w → w < σ (TB 0) 0 → -1 ≤ σ 4 w ∧ (σ 4 w < σ (TB 0) 1 ∨ σ 4 w = -1)
def rmO (σ : St) (w : Int) : Int := if σ 4 w = -1 then -1 else tOk σ (ub (AW σ) w) w (σ 4 w) - σ 3 1
def moS (σ : St) (i : Int) : Int := FI (fun a w => if a < rmO σ w then rmO σ w else a) (-1) i
theorem moS_s {σ : St} {i : Int} (h : 0 ≤ i) : moS σ (i + 1) = if moS σ i < rmO σ i then rmO σ i else moS σ i := FI_s h
def deS (σ : St) (i : Int) : Int := FI (fun a w => if moS σ w < rmO σ w then w else a) (-1) i
theorem deS_s {σ : St} {i : Int} (h : 0 ≤ i) : deS σ (i + 1) = if moS σ i < rmO σ i then i else deS σ i := FI_s h
theorem ub_AW {σ : St} (hT : TOK σ 0) {w : Int} (hw : 0 ≤ w ∧ w < 7) : 0 ≤ ub (AW σ) w ∧ ub (AW σ) w < 128 := by
  have h1 := AW_b hT
  have h2 := ub_lt (m := AW σ) (k := w) (n := 8) (by have h3 : p2 8 = 256 := rfl; omega) (by omega) (by omega)
  omega
theorem tOk_FR {σ σ' : St} {wk w j : Int} (hT : TOK σ 0) (hF : FR σ σ') (hw : 0 ≤ w ∧ w < 7) : tOk σ' wk w j = tOk σ wk w j := by
  have e1 : σ' (TB 0) 1 = σ (TB 0) 1 := hF _ _ (by unfold TB; omega)
  have hn := hT.2.1
  unfold tOk
  rw [e1]
  refine FI_congrI (by omega) (fun a i h0 hi => ?_)
  have eB : isB σ' 0 w (i - 1) = isB σ 0 w (i - 1) := by
    unfold isB
    rw [hF (TR 0 w) _ (by unfold TR; omega)]
  have eC : cW σ' 0 w (i - 1) = cW σ 0 w (i - 1) := by
    unfold cW
    rw [hF (TR 0 w) _ (by unfold TR; omega), hF (TI 0) _ (by unfold TI; omega)]
  rw [eB, eC, RW_FR hT hF wk 0 _ (by omega)]
theorem AW_FR {σ σ' : St} (hF : FR σ σ') : AW σ' = AW σ := by
  unfold AW
  rw [hF (TB 0) 0 (by unfold TB; omega)]
theorem rmO_FR {σ σ' : St} {w : Int} (hT : TOK σ 0) (hF : FR σ σ') (hw : 0 ≤ w ∧ w < 7) : rmO σ' w = rmO σ w := by
  unfold rmO
  rw [hF 4 w (by omega), hF 3 1 (by omega), AW_FR hF, tOk_FR hT hF hw]
set_option maxHeartbeats 4000000 in
set_option maxRecDepth 100000 in
theorem k_X1_leastTotalOf (E0 : EV) {ad : Int → Nat} {σ : St} {wk : Int} (hT0 : TOK σ 0) (hwk : 0 ≤ wk ∧ wk < 256) : MGE E0 yX1_leastTotalOf wsX1_leastTotalOf 3 73 ad σ [.ref (ad 3), .int (iI wk)] (PI (fun z σ' => z = RW σ wk 0 0 ∧ WP σ wk σ')) := by
  refine MGE.of (cc := cX1_leastTotalOf) (maxL := 2) (ret := (some .int)) (own := RX1) [some (.ref (ad 3)), some (.int (iI wk))] (by decide +kernel) rfl rfl (Nat.le_of_ble_eq_true rfl) rfl rfl (fun E X hr => ?_)
  have i1 : ∀ w ∈ wsX10, w ∈ wsX1_leastTotalOf := by decide +kernel
  refine g_rg (fun hR0 => ?_)
  refine g_aload0 X dX1_leastTotalOf_0 ?_
  refine g_iload1 X dX1_leastTotalOf_1 ?_
  refine g_V1 X (k_X1_weigh E hT0 (by omega)) gX1_leastTotalOf_X1_weigh rfl (by decide +kernel) (by decide) ob_3 (Nat.le_of_ble_eq_true rfl) dX1_leastTotalOf_2 (fun σ2 hp2 => ?_)
  refine g_rg (fun hR2 => ?_)
  refine g_aload0 X dX1_leastTotalOf_5 ?_
  refine gf_1_least X i1 (by decide +kernel) dX1_leastTotalOf_6 ?_
  refine g_iconst X dX1_leastTotalOf_9 ?_
  refine g_aald_5 X (by omega) dX1_leastTotalOf_10 ?_
  refine g_iconst X dX1_leastTotalOf_11 ?_
  refine g_iald X (ia_LR (by omega) (by omega)) dX1_leastTotalOf_12 ?_
  exact g_iret X hr (by first | exact hR2 _ _ | exact hR0 _ _ | assumption | (unfold InR; omega)) ⟨hp2.2 0 0 (by omega) hT0.1.1 (by omega) (by have := p2_n hT0.2.1; omega), hp2⟩ dX1_leastTotalOf_13

set_option maxHeartbeats 4000000 in
set_option maxRecDepth 100000 in
theorem k_X1_leastTotal (E0 : EV) {ad : Int → Nat} {σ : St} (hT0 : TOK σ 0) : MGE E0 yX1_leastTotal wsX1_leastTotal 4 94 ad σ [.ref (ad 3)] (PI (fun z σ' => z = RW σ (AW σ) 0 0 ∧ WP σ (AW σ) σ')) := by
  refine MGE.of (cc := cX1_leastTotal) (maxL := 1) (ret := (some .int)) (own := RX1) [some (.ref (ad 3))] (by decide +kernel) rfl rfl (Nat.le_of_ble_eq_true rfl) rfl rfl (fun E X hr => ?_)
  have i1 : ∀ w ∈ wsX10, w ∈ wsX1_leastTotal := by decide +kernel
  refine g_rg (fun hR0 => ?_)
  have hm := hT0.1
  have ha := AW_b hT0
  unfold AW at ha
  refine g_aload0 X dX1_leastTotal_0 ?_
  refine g_aload0 X dX1_leastTotal_1 ?_
  refine gf_1_table X i1 (by decide +kernel) dX1_leastTotal_2 ?_
  refine g_F0 X (k_X4_allWorkers E (by omega) (by omega)) gX1_leastTotal_X4_allWorkers rfl (by decide +kernel) (by decide) (ob_TB (by omega)) (Nat.le_of_ble_eq_true rfl) dX1_leastTotal_5 (fun hz5 => ?_)
  refine g_rg (fun hR5 => ?_)
  refine g_I1 X (k_X1_leastTotalOf E hT0 (by omega)) gX1_leastTotal_X1_leastTotalOf rfl (by decide +kernel) (by decide) ob_3 (Nat.le_of_ble_eq_true rfl) dX1_leastTotal_8 (fun z8 σ8 hz8 hp8 => ?_)
  refine g_rg (fun hR8 => ?_)
  exact g_iret X hr (by first | exact hR8 _ _ | exact hR5 _ _ | exact hR0 _ _ | assumption | (unfold InR; omega)) hp8 dX1_leastTotal_11

set_option maxHeartbeats 4000000 in
set_option maxRecDepth 100000 in
theorem k_X1_lossWithoutTask (E0 : EV) {ad : Int → Nat} {σ : St} {j : Int} (hT0 : TOK σ 0) (hj : 0 ≤ j ∧ j < σ (TB 0) 1) : MGE E0 yX1_lossWithoutTask wsX1_lossWithoutTask 3 73 ad σ [.ref (ad 3), .int (iI j)] (PI (fun z σ' => z = RW σ (AW σ) 0 (p2 j) - RW σ (AW σ) 0 0 ∧ FR σ σ')) := by
  refine MGE.of (cc := cX1_lossWithoutTask) (maxL := 2) (ret := (some .int)) (own := RX1) [some (.ref (ad 3)), some (.int (iI j))] (by decide +kernel) rfl rfl (Nat.le_of_ble_eq_true rfl) rfl rfl (fun E X hr => ?_)
  have i1 : ∀ w ∈ wsX10, w ∈ wsX1_lossWithoutTask := by decide +kernel
  refine g_rg (fun hR0 => ?_)
  have hm := hT0.1
  have hn := hT0.2.1
  have ha := AW_b hT0
  unfold AW at ha
  have hp1 := p2_lt (k := j) (n := σ (TB 0) 1) hj.1 hj.2 (by omega)
  have hp2 := p2_k (k := j) (by omega)
  have hp3 := p2_n hn
  refine g_aload0 X dX1_lossWithoutTask_0 ?_
  refine g_aload0 X dX1_lossWithoutTask_1 ?_
  refine gf_1_table X i1 (by decide +kernel) dX1_lossWithoutTask_2 ?_
  refine g_F0 X (k_X4_allWorkers E (by omega) (by omega)) gX1_lossWithoutTask_X4_allWorkers rfl (by decide +kernel) (by decide) (ob_TB (by omega)) (Nat.le_of_ble_eq_true rfl) dX1_lossWithoutTask_5 (fun hz5 => ?_)
  refine g_rg (fun hR5 => ?_)
  refine g_V1 X (k_X1_weigh E hT0 (by omega)) gX1_lossWithoutTask_X1_weigh rfl (by decide +kernel) (by decide) ob_3 (Nat.le_of_ble_eq_true rfl) dX1_lossWithoutTask_8 (fun σ8 hp8 => ?_)
  refine g_rg (fun hR8 => ?_)
  have hv1 := hp8.2 0 (p2 j) (by omega) (by omega) (by omega) (by omega)
  have hv2 := hp8.2 0 0 (by omega) (by omega) (by omega) (by omega)
  have hb1 := RW_b hT0 (p2 (σ (TB 0) 0) - 1) 0 (p2 j) (by omega)
  have hb2 := RW_b hT0 (p2 (σ (TB 0) 0) - 1) 0 0 (by omega)
  refine g_aload0 X dX1_lossWithoutTask_11 ?_
  refine gf_1_least X i1 (by decide +kernel) dX1_lossWithoutTask_12 ?_
  refine g_iconst X dX1_lossWithoutTask_15 ?_
  refine g_aald_5 X (by omega) dX1_lossWithoutTask_16 ?_
  refine g_iconst X dX1_lossWithoutTask_17 ?_
  refine g_iload1 X dX1_lossWithoutTask_18 ?_
  refine g_ishl X (b_shl (by omega)) dX1_lossWithoutTask_19 ?_
  refine g_iald X (ia_LR (by omega) (by omega)) dX1_lossWithoutTask_20 ?_
  refine g_aload0 X dX1_lossWithoutTask_21 ?_
  refine gf_1_least X i1 (by decide +kernel) dX1_lossWithoutTask_22 ?_
  refine g_iconst X dX1_lossWithoutTask_25 ?_
  refine g_aald_5 X (by omega) dX1_lossWithoutTask_26 ?_
  refine g_iconst X dX1_lossWithoutTask_27 ?_
  refine g_iald X (ia_LR (by omega) (by omega)) dX1_lossWithoutTask_28 ?_
  refine g_isub X dX1_lossWithoutTask_29 ?_
  exact g_iret X hr (by first | exact hR8 _ _ | exact hR5 _ _ | exact hR0 _ _ | assumption | (unfold InR; omega)) ⟨by rw [hv1, hv2]; rfl, hp8.1⟩ dX1_lossWithoutTask_30

set_option maxHeartbeats 4000000 in
set_option maxRecDepth 100000 in
theorem k_X1_lowestBestTask (E0 : EV) {ad : Int → Nat} {σ : St} {w tk : Int} (hT0 : TOK σ 0) (hw : 0 ≤ w ∧ w < 7) (htk : 0 ≤ tk ∧ tk < p2 (σ (TB 0) 1)) (hLb : LB σ (w + 1)) : MGE E0 yX1_lowestBestTask wsX1_lowestBestTask 1 24 ad σ [.ref (ad 3), .int (iI w), .int (iI tk)] (PF (fB σ w tk) σ) := by
  refine MGE.of (cc := cX1_lowestBestTask) (maxL := 4) (ret := (some .int)) (own := RX1) [some (.ref (ad 3)), some (.int (iI w)), some (.int (iI tk)), none] (by decide +kernel) rfl rfl (Nat.le_of_ble_eq_true rfl) rfl rfl (fun E X hr => ?_)
  have i1 : ∀ w ∈ wsX10, w ∈ wsX1_lowestBestTask := by decide +kernel
  have i4 : ∀ w ∈ wsX40, w ∈ wsX1_lowestBestTask := by decide +kernel
  refine g_rg (fun hR0 => ?_)
  have hn := hT0.2.1
  refine g_iconst X dX1_lowestBestTask_0 ?_
  refine g_istore3 X dX1_lowestBestTask_1 (by decide) (by first | exact Or.inl rfl | exact Or.inr ⟨_, rfl, rfl⟩) ?_
  have L2 : ∀ (n2 : Nat) (i : Int), (σ (TB 0) 1 - i).toNat < n2 → (0 ≤ i ∧ i ≤ σ (TB 0) 1) → (fB σ w tk = fsP (fun j => decide (tF σ w j tk = σ (LR w) tk)) (σ (TB 0) 1) (σ (TB 0) 1 - i).toNat) → WG E ad 4 σ 2 [some (.ref (ad 3)), some (.int (iI w)), some (.int (iI tk)), some (.int (iI i))] [] := by
    intro n2
    induction n2 with
    | zero => intro i hn; exact absurd hn (Nat.not_lt_zero _)
    | succ n2 ih2 =>
      intro i hn2 hi hs
      refine g_rg (fun hRL2 => ?_)
      have hn := hT0.2.1
      have hp3 := p2_n hn
      refine g_iload3 X dX1_lowestBestTask_2 ?_
      refine g_aload0 X dX1_lowestBestTask_3 ?_
      refine gf_1_table X i1 (by decide +kernel) dX1_lowestBestTask_4 ?_
      refine gf_4_tasks X (by omega) i4 (by decide +kernel) dX1_lowestBestTask_7 ?_
      refine g_icmp_ge (tgt := 39) X (by first | exact hRL2 _ _ | exact hR0 _ _ | assumption | (unfold InR; omega)) (by first | exact hRL2 _ _ | exact hR0 _ _ | assumption | (unfold InR; omega)) dX1_lowestBestTask_10 (by decide) (fun h10 => ?_) (fun h10 => ?_)
      · skip
        refine g_iconst X dX1_lowestBestTask_39 ?_
        exact g_iretF X hr (by first | exact hRL2 _ _ | exact hR0 _ _ | assumption | (unfold InR; omega)) ⟨by rw [hs, show (σ (TB 0) 1 - i).toNat = 0 by omega]; rfl, rfl⟩ dX1_lowestBestTask_40
      · skip
        have hcb := hT0.2.2.2 w i hw.1 hw.2 hi.1 (by omega)
        refine g_aload0 X dX1_lowestBestTask_13 ?_
        refine g_iload1 X dX1_lowestBestTask_14 ?_
        refine g_iload3 X dX1_lowestBestTask_15 ?_
        refine g_iload2 X dX1_lowestBestTask_16 ?_
        refine g_F3 X (k_X1_totalFrom E (by omega) (by omega) (by omega) (by omega) hLb) gX1_lowestBestTask_X1_totalFrom rfl (by decide +kernel) (by decide) ob_3 (Nat.le_of_ble_eq_true rfl) dX1_lowestBestTask_17 (fun hz17 => ?_)
        refine g_rg (fun hR17 => ?_)
        refine g_aload0 X dX1_lowestBestTask_20 ?_
        refine gf_1_least X i1 (by decide +kernel) dX1_lowestBestTask_21 ?_
        refine g_iload1 X dX1_lowestBestTask_24 ?_
        refine g_aald_5 X (by omega) dX1_lowestBestTask_25 ?_
        refine g_iload2 X dX1_lowestBestTask_26 ?_
        refine g_iald X (ia_LR (by omega) (by omega)) dX1_lowestBestTask_27 ?_
        refine g_icmp_ne (tgt := 33) X (by first | exact hR17 _ _ | exact hRL2 _ _ | exact hR0 _ _ | assumption | (unfold InR; omega)) (by first | exact hR17 _ _ | exact hRL2 _ _ | exact hR0 _ _ | assumption | (unfold InR; omega)) dX1_lowestBestTask_28 (by decide) (fun h28 => ?_) (fun h28 => ?_)
        · skip
          refine g_iinc3 X dX1_lowestBestTask_33 (by decide) (by first | exact Or.inl rfl | exact Or.inr ⟨_, rfl, rfl⟩) ?_
          refine g_goto (tgt := 2) X dX1_lowestBestTask_36 (by decide) ?_
          refine ih2 _ (by omega) ?_ ?_
          · omega
          · rw [hs, fsP_s ⟨hi.1, by omega⟩, if_neg (by simpa using h28)]
        · skip
          refine g_iload3 X dX1_lowestBestTask_31 ?_
          exact g_iretF X hr (by first | exact hR17 _ _ | exact hRL2 _ _ | exact hR0 _ _ | assumption | (unfold InR; omega)) ⟨by rw [hs, fsP_s ⟨hi.1, by omega⟩, if_pos (by simpa using h28)], rfl⟩ dX1_lowestBestTask_32
  refine L2 _ _ (Nat.lt_succ_self _) ?_ ?_
  · omega
  · rw [Int.sub_zero]
    rfl

set_option maxHeartbeats 4000000 in
set_option maxRecDepth 100000 in
theorem k_X1_chosenPairs (E0 : EV) {ad : Int → Nat} {σ : St} (hm : 0 ≤ σ (TB 0) 0 ∧ σ (TB 0) 0 ≤ 7) : MGE E0 yX1_chosenPairs wsX1_chosenPairs 0 0 ad σ [.ref (ad 3)] (PF (cP σ (σ (TB 0) 0)) σ) := by
  refine MGE.of (cc := cX1_chosenPairs) (maxL := 3) (ret := (some .int)) (own := RX1) [some (.ref (ad 3)), none, none] (by decide +kernel) rfl rfl (Nat.le_of_ble_eq_true rfl) rfl rfl (fun E X hr => ?_)
  have i1 : ∀ w ∈ wsX10, w ∈ wsX1_chosenPairs := by decide +kernel
  have i4 : ∀ w ∈ wsX40, w ∈ wsX1_chosenPairs := by decide +kernel
  refine g_rg (fun hR0 => ?_)
  refine g_iconst X dX1_chosenPairs_0 ?_
  refine g_istore1 X dX1_chosenPairs_1 (by decide) (by first | exact Or.inl rfl | exact Or.inr ⟨_, rfl, rfl⟩) ?_
  refine g_iconst X dX1_chosenPairs_2 ?_
  refine g_istore2 X dX1_chosenPairs_3 (by decide) (by first | exact Or.inl rfl | exact Or.inr ⟨_, rfl, rfl⟩) ?_
  have L4 : ∀ (n4 : Nat) (i a : Int), (σ (TB 0) 0 - i).toNat < n4 → (0 ≤ i ∧ i ≤ σ (TB 0) 0) → (0 ≤ a ∧ a ≤ i) → (a = cP σ i) → WG E ad 3 σ 4 [some (.ref (ad 3)), some (.int (iI a)), some (.int (iI i))] [] := by
    intro n4
    induction n4 with
    | zero => intro i a hn; exact absurd hn (Nat.not_lt_zero _)
    | succ n4 ih4 =>
      intro i a hn4 hi ha hs
      refine g_rg (fun hRL4 => ?_)
      refine g_iload2 X dX1_chosenPairs_4 ?_
      refine g_aload0 X dX1_chosenPairs_5 ?_
      refine gf_1_table X i1 (by decide +kernel) dX1_chosenPairs_6 ?_
      refine gf_4_workers X (by omega) i4 (by decide +kernel) dX1_chosenPairs_9 ?_
      refine g_icmp_ge (tgt := 34) X (by first | exact hRL4 _ _ | exact hR0 _ _ | assumption | (unfold InR; omega)) (by first | exact hRL4 _ _ | exact hR0 _ _ | assumption | (unfold InR; omega)) dX1_chosenPairs_12 (by decide) (fun h12 => ?_) (fun h12 => ?_)
      · skip
        refine g_iload1 X dX1_chosenPairs_34 ?_
        exact g_iretF X hr (by first | exact hRL4 _ _ | exact hR0 _ _ | assumption | (unfold InR; omega)) ⟨by rw [hs]; congr 1; omega, rfl⟩ dX1_chosenPairs_35
      · skip
        refine g_aload0 X dX1_chosenPairs_15 ?_
        refine gf_1_chosen X i1 (by decide +kernel) dX1_chosenPairs_16 ?_
        refine g_iload2 X dX1_chosenPairs_19 ?_
        refine g_iald X (ia_4 (by omega)) dX1_chosenPairs_20 ?_
        refine g_iconst X dX1_chosenPairs_21 ?_
        refine g_icmp_eq (tgt := 28) X (by first | exact hRL4 _ _ | exact hR0 _ _ | assumption | (unfold InR; omega)) (by first | exact hRL4 _ _ | exact hR0 _ _ | assumption | (unfold InR; omega)) dX1_chosenPairs_22 (by decide) (fun h22 => ?_) (fun h22 => ?_)
        · skip
          refine g_iinc2 X dX1_chosenPairs_28 (by decide) (by first | exact Or.inl rfl | exact Or.inr ⟨_, rfl, rfl⟩) ?_
          refine g_goto (tgt := 4) X dX1_chosenPairs_31 (by decide) ?_
          refine ih4 _ _ (by omega) ?_ ?_ ?_
          · omega
          · omega
          · rw [hs, cP_s hi.1]
            first | (rw [if_pos (by omega)]; done) | (rw [if_neg (by omega)]; done)
        · skip
          refine g_iinc1 X dX1_chosenPairs_25 (by decide) (by first | exact Or.inl rfl | exact Or.inr ⟨_, rfl, rfl⟩) ?_
          refine g_iinc2 X dX1_chosenPairs_28 (by decide) (by first | exact Or.inl rfl | exact Or.inr ⟨_, rfl, rfl⟩) ?_
          refine g_goto (tgt := 4) X dX1_chosenPairs_31 (by decide) ?_
          refine ih4 _ _ (by omega) ?_ ?_ ?_
          · omega
          · omega
          · rw [hs, cP_s hi.1]
            first | (rw [if_pos (by omega)]; done) | (rw [if_neg (by omega)]; done)
  refine L4 _ _ _ (Nat.lt_succ_self _) ?_ ?_ ?_
  · omega
  · omega
  · rfl

set_option maxHeartbeats 4000000 in
set_option maxRecDepth 100000 in
theorem k_X1_chooseFirst (E0 : EV) {ad : Int → Nat} {σ : St} (hT0 : TOK σ 0) : MGE E0 yX1_chooseFirst wsX1_chooseFirst 5 114 ad σ [.ref (ad 3)] (PV (fun σ' => CH σ σ')) := by
  refine MGE.of (cc := cX1_chooseFirst) (maxL := 3) (ret := none) (own := RX1) [some (.ref (ad 3)), none, none] (by decide +kernel) rfl rfl (Nat.le_of_ble_eq_true rfl) rfl rfl (fun E X hr => ?_)
  have i1 : ∀ w ∈ wsX10, w ∈ wsX1_chooseFirst := by decide +kernel
  have i4 : ∀ w ∈ wsX40, w ∈ wsX1_chooseFirst := by decide +kernel
  refine g_rg (fun hR0 => ?_)
  have hm := hT0.1
  have hn := hT0.2.1
  have hp3 := p2_n hn
  refine g_aload0 X dX1_chooseFirst_0 ?_
  refine g_aload0 X dX1_chooseFirst_1 ?_
  refine g_I0 X (k_X1_leastTotal E hT0) gX1_chooseFirst_X1_leastTotal rfl (by decide +kernel) (by decide) ob_3 (Nat.le_of_ble_eq_true rfl) dX1_chooseFirst_2 (fun z2 σ2 hz2 hp2 => ?_)
  refine g_rg (fun hR2 => ?_)
  refine gp_1_chosenTotal X i1 (by decide +kernel) (by first | exact hR2 _ _ | exact hR0 _ _ | assumption | (unfold InR; omega)) dX1_chooseFirst_5 ?_
  refine g_rg (fun hR5 => ?_)
  refine g_iconst X dX1_chooseFirst_8 ?_
  refine g_istore1 X dX1_chooseFirst_9 (by decide) (by first | exact Or.inl rfl | exact Or.inr ⟨_, rfl, rfl⟩) ?_
  refine g_iconst X dX1_chooseFirst_10 ?_
  refine g_istore2 X dX1_chooseFirst_11 (by decide) (by first | exact Or.inl rfl | exact Or.inr ⟨_, rfl, rfl⟩) ?_
  have L12 : ∀ (n12 : Nat) (w tk : Int) (σ1 : St), (σ (TB 0) 0 - w).toNat < n12 → (0 ≤ w ∧ w ≤ σ (TB 0) 0) → (0 ≤ tk ∧ tk < p2 (σ (TB 0) 1)) → (tk = tkS σ w) → (∀ q k, q ≠ 3 → q ≠ 4 → (q < 71 ∨ 79 ≤ q) → σ1 q k = σ q k) → (σ1 3 1 = RW σ (AW σ) 0 0) → (∀ w tk, 0 ≤ w → w ≤ σ (TB 0) 0 → 0 ≤ tk → tk < p2 (σ (TB 0) 1) → σ1 (LR w) tk = RW σ (AW σ) w tk) → (∀ v, 0 ≤ v → v < w → σ1 4 v = fP σ v) → WG E ad 3 σ1 12 [some (.ref (ad 3)), some (.int (iI tk)), some (.int (iI w))] [] := by
    intro n12
    induction n12 with
    | zero => intro w tk σ1 hn; exact absurd hn (Nat.not_lt_zero _)
    | succ n12 ih12 =>
      intro w tk σ1 hn12 hw htk hs hF h31 hrw hch
      refine g_rg (fun hRL12 => ?_)
      have e0 : σ1 (TB 0) 0 = σ (TB 0) 0 := hF _ _ (by unfold TB; omega) (by unfold TB; omega) (by unfold TB; omega)
      have e1 : σ1 (TB 0) 1 = σ (TB 0) 1 := hF _ _ (by unfold TB; omega) (by unfold TB; omega) (by unfold TB; omega)
      have e1p : p2 (σ1 (TB 0) 1) = p2 (σ (TB 0) 1) := by rw [e1]
      refine g_iload2 X dX1_chooseFirst_12 ?_
      refine g_aload0 X dX1_chooseFirst_13 ?_
      refine gf_1_table X i1 (by decide +kernel) dX1_chooseFirst_14 ?_
      refine gf_4_workers X (by omega) i4 (by decide +kernel) dX1_chooseFirst_17 ?_
      refine g_icmp_ge (tgt := 62) X (by first | exact hRL12 _ _ | exact hR5 _ _ | exact hR2 _ _ | exact hR0 _ _ | assumption | (unfold InR; omega)) (by first | exact hRL12 _ _ | exact hR5 _ _ | exact hR2 _ _ | exact hR0 _ _ | assumption | (unfold InR; omega)) dX1_chooseFirst_20 (by decide) (fun h20 => ?_) (fun h20 => ?_)
      · skip
        exact g_vret X hr ⟨hF, h31, fun v h1 h2 => hch v h1 (by omega)⟩ dX1_chooseFirst_62
      · skip
        have hT1 : TOK σ1 0 := ⟨by rw [e0]; exact hm, by rw [e1]; exact hn, fun v h1 h2 => by rw [hF _ _ (by unfold TI; omega) (by unfold TI; omega) (by unfold TI; omega)]; exact hT0.2.2.1 v h1 h2, fun v j h1 h2 h3 h4 => by rw [hF _ _ (by unfold TR; omega) (by unfold TR; omega) (by unfold TR; omega)]; exact hT0.2.2.2 v j h1 h2 h3 h4⟩
        have hLb : LB σ1 (w + 1) := fun k h1 h2 => by
          rw [hrw (w + 1) k (by omega) (by omega) h1 (by omega)]
          have := RW_b hT0 (AW σ) (w + 1) k (by omega)
          omega
        have eB : fB σ1 w tk = fpk σ w tk := fB_of hT0 (fun q k h1 h2 h3 => hF q k h2 h3 (by omega)) hrw (by omega) htk
        have hfr := fpk_r hT0 w tk
        refine g_aload0 X dX1_chooseFirst_23 ?_
        refine gf_1_chosen X i1 (by decide +kernel) dX1_chooseFirst_24 ?_
        refine g_iload2 X dX1_chooseFirst_27 ?_
        refine g_aload0 X dX1_chooseFirst_28 ?_
        refine g_iload2 X dX1_chooseFirst_29 ?_
        refine g_iload1 X dX1_chooseFirst_30 ?_
        refine g_F2 X (k_X1_lowestBestTask E hT1 (by omega) (by omega) hLb) gX1_chooseFirst_X1_lowestBestTask rfl (by decide +kernel) (by decide) ob_3 (Nat.le_of_ble_eq_true rfl) dX1_chooseFirst_31 (fun hz31 => ?_)
        refine g_rg (fun hR31 => ?_)
        refine g_iast X (ia_4 (by omega)) (by first | exact hR31 _ _ | exact hRL12 _ _ | exact hR5 _ _ | exact hR2 _ _ | exact hR0 _ _ | assumption | (unfold InR; omega)) dX1_chooseFirst_34 ?_
        refine g_rg (fun hR34 => ?_)
        have u1 : up σ1 4 w (fB σ1 w tk) 4 w = fB σ1 w tk := by simp [up]
        refine g_aload0 X dX1_chooseFirst_35 ?_
        refine gf_1_chosen X i1 (by decide +kernel) dX1_chooseFirst_36 ?_
        refine g_iload2 X dX1_chooseFirst_39 ?_
        refine g_iald X (ia_4 (by omega)) dX1_chooseFirst_40 ?_
        rw [u1]
        refine g_iconst X dX1_chooseFirst_41 ?_
        refine g_icmp_eq (tgt := 56) X (by first | exact hR34 _ _ | exact hR31 _ _ | exact hRL12 _ _ | exact hR5 _ _ | exact hR2 _ _ | exact hR0 _ _ | assumption | (unfold InR; omega)) (by first | exact hR34 _ _ | exact hR31 _ _ | exact hRL12 _ _ | exact hR5 _ _ | exact hR2 _ _ | exact hR0 _ _ | assumption | (unfold InR; omega)) dX1_chooseFirst_42 (by decide) (fun h42 => ?_) (fun h42 => ?_)
        · skip
          refine g_iinc2 X dX1_chooseFirst_56 (by decide) (by first | exact Or.inl rfl | exact Or.inr ⟨_, rfl, rfl⟩) ?_
          refine g_goto (tgt := 12) X dX1_chooseFirst_59 (by decide) ?_
          refine ih12 _ _ _ (by omega) ?_ ?_ ?_ ?_ ?_ ?_ ?_
          · omega
          · first | exact htk | exact hsb
          · rw [hs, tkS_s hw.1, ← hs]
            first | (rw [if_pos (by omega)]; done) | (rw [if_neg (by omega), ← eB]; done)
          · intro q k h3 h4 hq
            unfold up
            rw [if_neg (fun h => h4 h.1)]
            exact hF q k h3 h4 hq
          · unfold up
            rw [if_neg (by omega)]
            exact h31
          · intro v k h1 h2 h3 h4
            unfold up
            rw [if_neg (by unfold LR; omega)]
            exact hrw v k h1 h2 h3 h4
          · intro v h1 h2
            unfold up
            by_cases hv : v = w
            · rw [if_pos ⟨rfl, hv⟩, eB, hv]
              unfold fP
              rw [← hs]
            · rw [if_neg (fun h => hv h.2)]
              exact hch v h1 (by omega)
        · skip
          refine g_iload1 X dX1_chooseFirst_45 ?_
          refine g_iconst X dX1_chooseFirst_46 ?_
          refine g_aload0 X dX1_chooseFirst_47 ?_
          refine gf_1_chosen X i1 (by decide +kernel) dX1_chooseFirst_48 ?_
          refine g_iload2 X dX1_chooseFirst_51 ?_
          refine g_iald X (ia_4 (by omega)) dX1_chooseFirst_52 ?_
          rw [u1]
          refine g_ishl X (b_shl (by omega)) dX1_chooseFirst_53 ?_
          have hsb := sb_lt (n := σ (TB 0) 1) htk (k := fB σ1 w tk) (by omega) (by omega)
          refine g_ior X (b_or (by omega) (by omega)) dX1_chooseFirst_54 ?_
          refine g_istore1 X dX1_chooseFirst_55 (by decide) (by first | exact Or.inl rfl | exact Or.inr ⟨_, rfl, rfl⟩) ?_
          refine g_iinc2 X dX1_chooseFirst_56 (by decide) (by first | exact Or.inl rfl | exact Or.inr ⟨_, rfl, rfl⟩) ?_
          refine g_goto (tgt := 12) X dX1_chooseFirst_59 (by decide) ?_
          refine ih12 _ _ _ (by omega) ?_ ?_ ?_ ?_ ?_ ?_ ?_
          · omega
          · first | exact htk | exact hsb
          · rw [hs, tkS_s hw.1, ← hs]
            first | (rw [if_pos (by omega)]; done) | (rw [if_neg (by omega), ← eB]; done)
          · intro q k h3 h4 hq
            unfold up
            rw [if_neg (fun h => h4 h.1)]
            exact hF q k h3 h4 hq
          · unfold up
            rw [if_neg (by omega)]
            exact h31
          · intro v k h1 h2 h3 h4
            unfold up
            rw [if_neg (by unfold LR; omega)]
            exact hrw v k h1 h2 h3 h4
          · intro v h1 h2
            unfold up
            by_cases hv : v = w
            · rw [if_pos ⟨rfl, hv⟩, eB, hv]
              unfold fP
              rw [← hs]
            · rw [if_neg (fun h => hv h.2)]
              exact hch v h1 (by omega)
  refine L12 _ _ _ _ (Nat.lt_succ_self _) ?_ ?_ ?_ ?_ ?_ ?_ ?_
  · omega
  · omega
  · rfl
  · intro q k h3 h4 hq
    unfold up
    rw [if_neg (fun h => h3 h.1)]
    exact hp2.2.1 q k hq
  · unfold up
    rw [if_pos ⟨rfl, rfl⟩]
    exact hp2.1
  · intro v k h1 h2 h3 h4
    unfold up
    rw [if_neg (by unfold LR; omega)]
    exact hp2.2.2 v k h1 h2 h3 h4
  · intro v h1 h2
    omega
end
section
theorem dX2_init_0 : decode cX2_init 0 = .ok (.aload_n 0, 1) := by decide +kernel
theorem dX2_init_1 : decode cX2_init 1 = .ok (.invokespecial 3, 3) := by decide +kernel
theorem dX2_init_4 : decode cX2_init 4 = .ok (.aload_n 0, 1) := by decide +kernel
theorem dX2_init_5 : decode cX2_init 5 = .ok (.aload_n 1, 1) := by decide +kernel
theorem dX2_init_6 : decode cX2_init 6 = .ok (.putfield 9, 3) := by decide +kernel
theorem dX2_init_9 : decode cX2_init 9 = .ok (.aload_n 0, 1) := by decide +kernel
theorem dX2_init_10 : decode cX2_init 10 = .ok (.aload_n 2, 1) := by decide +kernel
theorem dX2_init_11 : decode cX2_init 11 = .ok (.putfield 15, 3) := by decide +kernel
theorem dX2_init_14 : decode cX2_init 14 = .ok (.aload_n 0, 1) := by decide +kernel
theorem dX2_init_15 : decode cX2_init 15 = .ok (.bipush 7, 2) := by decide +kernel
theorem dX2_init_17 : decode cX2_init 17 = .ok (.newarray .int, 2) := by decide +kernel
theorem dX2_init_19 : decode cX2_init 19 = .ok (.putfield 19, 3) := by decide +kernel
theorem dX2_init_22 : decode cX2_init 22 = .ok (.return_, 1) := by decide +kernel
set_option maxRecDepth 20000 in
theorem ggX2_findLeast_X1_leastTotal : GoodIn wsX2_findLeast wsX1_leastTotal := goodIn_r _ [15, 16, 17, 18, 19, 20, 21, 22, 23, 24, 25, 14, 26, 27, 28, 29, 30, 31, 32, 33, 34, 35, 36, 37, 38, 39, 40, 9, 41, 42, 43, 44, 45, 46, 47, 66, 67, 68, 69, 62, 63, 64, 65] (by decide +kernel) (by decide +kernel)
set_option maxRecDepth 20000 in
theorem gX2_findLeast_X1_leastTotal : GoodIn wsX2_findLeast (wsV RX2 29 RX1 yX1_leastTotal wsX1_leastTotal) := goodIn_app (goodIn_of _ (by decide +kernel)) ggX2_findLeast_X1_leastTotal
set_option maxRecDepth 20000 in
theorem ggX2_findLeast_X4_allWorkersBut : GoodIn wsX2_findLeast wsX4_allWorkersBut := goodIn_r _ [51, 52, 18, 19, 20, 21, 22, 62, 63, 64, 65] (by decide +kernel) (by decide +kernel)
set_option maxRecDepth 20000 in
theorem gX2_findLeast_X4_allWorkersBut : GoodIn wsX2_findLeast (wsV RX2 38 RX4 yX4_allWorkersBut wsX4_allWorkersBut) := goodIn_app (goodIn_of _ (by decide +kernel)) ggX2_findLeast_X4_allWorkersBut
set_option maxRecDepth 20000 in
theorem ggX2_findLeast_X1_leastTotalOf : GoodIn wsX2_findLeast wsX1_leastTotalOf := goodIn_r _ [26, 27, 28, 29, 30, 14, 31, 16, 32, 33, 34, 35, 36, 37, 38, 39, 40, 9, 41, 42, 43, 44, 45, 46, 47, 66, 67, 68, 69, 62, 63, 64, 65] (by decide +kernel) (by decide +kernel)
set_option maxRecDepth 20000 in
theorem gX2_findLeast_X1_leastTotalOf : GoodIn wsX2_findLeast (wsV RX2 42 RX1 yX1_leastTotalOf wsX1_leastTotalOf) := goodIn_app (goodIn_of _ (by decide +kernel)) ggX2_findLeast_X1_leastTotalOf
set_option maxRecDepth 20000 in
theorem ggX2_findLeast_X4_isBarred : GoodIn wsX2_findLeast wsX4_isBarred := goodIn_r _ [57, 58, 62, 63, 64, 65] (by decide +kernel) (by decide +kernel)
set_option maxRecDepth 20000 in
theorem gX2_findLeast_X4_isBarred : GoodIn wsX2_findLeast (wsV RX2 45 RX4 yX4_isBarred wsX4_isBarred) := goodIn_app (goodIn_of _ (by decide +kernel)) ggX2_findLeast_X4_isBarred
theorem dX2_findLeast_0 : decode cX2_findLeast 0 = .ok (.iconst 0, 1) := by decide +kernel
theorem dX2_findLeast_1 : decode cX2_findLeast 1 = .ok (.istore_n 1, 1) := by decide +kernel
theorem dX2_findLeast_2 : decode cX2_findLeast 2 = .ok (.iload_n 1, 1) := by decide +kernel
theorem dX2_findLeast_3 : decode cX2_findLeast 3 = .ok (.aload_n 0, 1) := by decide +kernel
theorem dX2_findLeast_4 : decode cX2_findLeast 4 = .ok (.getfield 9, 3) := by decide +kernel
theorem dX2_findLeast_7 : decode cX2_findLeast 7 = .ok (.getfield 23, 3) := by decide +kernel
theorem dX2_findLeast_10 : decode cX2_findLeast 10 = .ok (.if_icmp .ge 16, 3) := by decide +kernel
theorem dX2_findLeast_13 : decode cX2_findLeast 13 = .ok (.aload_n 0, 1) := by decide +kernel
theorem dX2_findLeast_14 : decode cX2_findLeast 14 = .ok (.getfield 19, 3) := by decide +kernel
theorem dX2_findLeast_17 : decode cX2_findLeast 17 = .ok (.iload_n 1, 1) := by decide +kernel
theorem dX2_findLeast_18 : decode cX2_findLeast 18 = .ok (.iconst 0, 1) := by decide +kernel
theorem dX2_findLeast_19 : decode cX2_findLeast 19 = .ok (.iastore, 1) := by decide +kernel
theorem dX2_findLeast_20 : decode cX2_findLeast 20 = .ok (.iinc 1 1, 3) := by decide +kernel
theorem dX2_findLeast_23 : decode cX2_findLeast 23 = .ok (.goto (-21), 3) := by decide +kernel
theorem dX2_findLeast_26 : decode cX2_findLeast 26 = .ok (.aload_n 0, 1) := by decide +kernel
theorem dX2_findLeast_27 : decode cX2_findLeast 27 = .ok (.getfield 15, 3) := by decide +kernel
theorem dX2_findLeast_30 : decode cX2_findLeast 30 = .ok (.invokevirtual 29, 3) := by decide +kernel
theorem dX2_findLeast_33 : decode cX2_findLeast 33 = .ok (.istore_n 1, 1) := by decide +kernel
theorem dX2_findLeast_34 : decode cX2_findLeast 34 = .ok (.iconst 0, 1) := by decide +kernel
theorem dX2_findLeast_35 : decode cX2_findLeast 35 = .ok (.istore_n 2, 1) := by decide +kernel
theorem dX2_findLeast_36 : decode cX2_findLeast 36 = .ok (.iload_n 2, 1) := by decide +kernel
theorem dX2_findLeast_37 : decode cX2_findLeast 37 = .ok (.aload_n 0, 1) := by decide +kernel
theorem dX2_findLeast_38 : decode cX2_findLeast 38 = .ok (.getfield 9, 3) := by decide +kernel
theorem dX2_findLeast_41 : decode cX2_findLeast 41 = .ok (.getfield 35, 3) := by decide +kernel
theorem dX2_findLeast_44 : decode cX2_findLeast 44 = .ok (.if_icmp .ge 92, 3) := by decide +kernel
theorem dX2_findLeast_47 : decode cX2_findLeast 47 = .ok (.iload_n 1, 1) := by decide +kernel
theorem dX2_findLeast_48 : decode cX2_findLeast 48 = .ok (.aload_n 0, 1) := by decide +kernel
theorem dX2_findLeast_49 : decode cX2_findLeast 49 = .ok (.getfield 15, 3) := by decide +kernel
theorem dX2_findLeast_52 : decode cX2_findLeast 52 = .ok (.aload_n 0, 1) := by decide +kernel
theorem dX2_findLeast_53 : decode cX2_findLeast 53 = .ok (.getfield 9, 3) := by decide +kernel
theorem dX2_findLeast_56 : decode cX2_findLeast 56 = .ok (.iload_n 2, 1) := by decide +kernel
theorem dX2_findLeast_57 : decode cX2_findLeast 57 = .ok (.invokevirtual 38, 3) := by decide +kernel
theorem dX2_findLeast_60 : decode cX2_findLeast 60 = .ok (.invokevirtual 42, 3) := by decide +kernel
theorem dX2_findLeast_63 : decode cX2_findLeast 63 = .ok (.isub, 1) := by decide +kernel
theorem dX2_findLeast_64 : decode cX2_findLeast 64 = .ok (.istore_n 3, 1) := by decide +kernel
theorem dX2_findLeast_65 : decode cX2_findLeast 65 = .ok (.iconst 0, 1) := by decide +kernel
theorem dX2_findLeast_66 : decode cX2_findLeast 66 = .ok (.istore 4, 2) := by decide +kernel
theorem dX2_findLeast_68 : decode cX2_findLeast 68 = .ok (.iload 4, 2) := by decide +kernel
theorem dX2_findLeast_70 : decode cX2_findLeast 70 = .ok (.aload_n 0, 1) := by decide +kernel
theorem dX2_findLeast_71 : decode cX2_findLeast 71 = .ok (.getfield 9, 3) := by decide +kernel
theorem dX2_findLeast_74 : decode cX2_findLeast 74 = .ok (.getfield 23, 3) := by decide +kernel
theorem dX2_findLeast_77 : decode cX2_findLeast 77 = .ok (.if_icmp .ge 53, 3) := by decide +kernel
theorem dX2_findLeast_80 : decode cX2_findLeast 80 = .ok (.aload_n 0, 1) := by decide +kernel
theorem dX2_findLeast_81 : decode cX2_findLeast 81 = .ok (.getfield 9, 3) := by decide +kernel
theorem dX2_findLeast_84 : decode cX2_findLeast 84 = .ok (.iload_n 2, 1) := by decide +kernel
theorem dX2_findLeast_85 : decode cX2_findLeast 85 = .ok (.iload 4, 2) := by decide +kernel
theorem dX2_findLeast_87 : decode cX2_findLeast 87 = .ok (.invokevirtual 45, 3) := by decide +kernel
theorem dX2_findLeast_90 : decode cX2_findLeast 90 = .ok (.ifCond .ne 34, 3) := by decide +kernel
theorem dX2_findLeast_93 : decode cX2_findLeast 93 = .ok (.aload_n 0, 1) := by decide +kernel
theorem dX2_findLeast_94 : decode cX2_findLeast 94 = .ok (.getfield 19, 3) := by decide +kernel
theorem dX2_findLeast_97 : decode cX2_findLeast 97 = .ok (.iload 4, 2) := by decide +kernel
theorem dX2_findLeast_99 : decode cX2_findLeast 99 = .ok (.aload_n 0, 1) := by decide +kernel
theorem dX2_findLeast_100 : decode cX2_findLeast 100 = .ok (.getfield 19, 3) := by decide +kernel
theorem dX2_findLeast_103 : decode cX2_findLeast 103 = .ok (.iload 4, 2) := by decide +kernel
theorem dX2_findLeast_105 : decode cX2_findLeast 105 = .ok (.iaload, 1) := by decide +kernel
theorem dX2_findLeast_106 : decode cX2_findLeast 106 = .ok (.iload_n 3, 1) := by decide +kernel
theorem dX2_findLeast_107 : decode cX2_findLeast 107 = .ok (.aload_n 0, 1) := by decide +kernel
theorem dX2_findLeast_108 : decode cX2_findLeast 108 = .ok (.getfield 9, 3) := by decide +kernel
theorem dX2_findLeast_111 : decode cX2_findLeast 111 = .ok (.getfield 49, 3) := by decide +kernel
theorem dX2_findLeast_114 : decode cX2_findLeast 114 = .ok (.iload_n 2, 1) := by decide +kernel
theorem dX2_findLeast_115 : decode cX2_findLeast 115 = .ok (.aaload, 1) := by decide +kernel
theorem dX2_findLeast_116 : decode cX2_findLeast 116 = .ok (.iload 4, 2) := by decide +kernel
theorem dX2_findLeast_118 : decode cX2_findLeast 118 = .ok (.iaload, 1) := by decide +kernel
theorem dX2_findLeast_119 : decode cX2_findLeast 119 = .ok (.isub, 1) := by decide +kernel
theorem dX2_findLeast_120 : decode cX2_findLeast 120 = .ok (.invokestatic 53, 3) := by decide +kernel
theorem dX2_findLeast_123 : decode cX2_findLeast 123 = .ok (.iastore, 1) := by decide +kernel
theorem dX2_findLeast_124 : decode cX2_findLeast 124 = .ok (.iinc 4 1, 3) := by decide +kernel
theorem dX2_findLeast_127 : decode cX2_findLeast 127 = .ok (.goto (-59), 3) := by decide +kernel
theorem dX2_findLeast_130 : decode cX2_findLeast 130 = .ok (.iinc 2 1, 3) := by decide +kernel
theorem dX2_findLeast_133 : decode cX2_findLeast 133 = .ok (.goto (-97), 3) := by decide +kernel
theorem dX2_findLeast_136 : decode cX2_findLeast 136 = .ok (.return_, 1) := by decide +kernel
set_option maxRecDepth 20000 in
theorem ggX2_greatestOf_X1_lossWithoutTask : GoodIn wsX2_greatestOf wsX1_lossWithoutTask := goodIn_r _ [6, 7, 8, 9, 10, 11, 12, 13, 14, 15, 16, 17, 5, 18, 19, 20, 21, 22, 23, 24, 25, 26, 27, 28, 29, 30, 31, 32, 33, 34, 35, 39, 40, 41, 42, 43, 44, 45, 46] (by decide +kernel) (by decide +kernel)
set_option maxRecDepth 20000 in
theorem gX2_greatestOf_X1_lossWithoutTask : GoodIn wsX2_greatestOf (wsV RX2 59 RX1 yX1_lossWithoutTask wsX1_lossWithoutTask) := goodIn_app (goodIn_of _ (by decide +kernel)) ggX2_greatestOf_X1_lossWithoutTask
theorem dX2_greatestOf_0 : decode cX2_greatestOf 0 = .ok (.aload_n 0, 1) := by decide +kernel
theorem dX2_greatestOf_1 : decode cX2_greatestOf 1 = .ok (.getfield 15, 3) := by decide +kernel
theorem dX2_greatestOf_4 : decode cX2_greatestOf 4 = .ok (.iload_n 1, 1) := by decide +kernel
theorem dX2_greatestOf_5 : decode cX2_greatestOf 5 = .ok (.invokevirtual 59, 3) := by decide +kernel
theorem dX2_greatestOf_8 : decode cX2_greatestOf 8 = .ok (.ireturn, 1) := by decide +kernel
theorem dX2_sumOfLeast_0 : decode cX2_sumOfLeast 0 = .ok (.iconst 0, 1) := by decide +kernel
theorem dX2_sumOfLeast_1 : decode cX2_sumOfLeast 1 = .ok (.istore_n 1, 1) := by decide +kernel
theorem dX2_sumOfLeast_2 : decode cX2_sumOfLeast 2 = .ok (.iconst 0, 1) := by decide +kernel
theorem dX2_sumOfLeast_3 : decode cX2_sumOfLeast 3 = .ok (.istore_n 2, 1) := by decide +kernel
theorem dX2_sumOfLeast_4 : decode cX2_sumOfLeast 4 = .ok (.iload_n 2, 1) := by decide +kernel
theorem dX2_sumOfLeast_5 : decode cX2_sumOfLeast 5 = .ok (.aload_n 0, 1) := by decide +kernel
theorem dX2_sumOfLeast_6 : decode cX2_sumOfLeast 6 = .ok (.getfield 9, 3) := by decide +kernel
theorem dX2_sumOfLeast_9 : decode cX2_sumOfLeast 9 = .ok (.getfield 23, 3) := by decide +kernel
theorem dX2_sumOfLeast_12 : decode cX2_sumOfLeast 12 = .ok (.if_icmp .ge 18, 3) := by decide +kernel
theorem dX2_sumOfLeast_15 : decode cX2_sumOfLeast 15 = .ok (.iload_n 1, 1) := by decide +kernel
theorem dX2_sumOfLeast_16 : decode cX2_sumOfLeast 16 = .ok (.aload_n 0, 1) := by decide +kernel
theorem dX2_sumOfLeast_17 : decode cX2_sumOfLeast 17 = .ok (.getfield 19, 3) := by decide +kernel
theorem dX2_sumOfLeast_20 : decode cX2_sumOfLeast 20 = .ok (.iload_n 2, 1) := by decide +kernel
theorem dX2_sumOfLeast_21 : decode cX2_sumOfLeast 21 = .ok (.iaload, 1) := by decide +kernel
theorem dX2_sumOfLeast_22 : decode cX2_sumOfLeast 22 = .ok (.iadd, 1) := by decide +kernel
theorem dX2_sumOfLeast_23 : decode cX2_sumOfLeast 23 = .ok (.istore_n 1, 1) := by decide +kernel
theorem dX2_sumOfLeast_24 : decode cX2_sumOfLeast 24 = .ok (.iinc 2 1, 3) := by decide +kernel
theorem dX2_sumOfLeast_27 : decode cX2_sumOfLeast 27 = .ok (.goto (-23), 3) := by decide +kernel
theorem dX2_sumOfLeast_30 : decode cX2_sumOfLeast 30 = .ok (.iload_n 1, 1) := by decide +kernel
theorem dX2_sumOfLeast_31 : decode cX2_sumOfLeast 31 = .ok (.ireturn, 1) := by decide +kernel
set_option maxRecDepth 20000 in
theorem ggX2_sumOfGreatest_X2_greatestOf : GoodIn wsX2_sumOfGreatest wsX2_greatestOf := goodIn_r _ [7, 8, 9, 10, 11, 12, 13, 14, 15, 16, 17, 18, 19, 20, 21, 22, 23, 24, 25, 26, 27, 28, 29, 30, 31, 32, 33, 34, 35, 36, 37, 38, 39, 40, 41, 42, 43, 44, 45, 50, 51, 52, 53, 46, 47, 48, 49] (by decide +kernel) (by decide +kernel)
set_option maxRecDepth 20000 in
theorem gX2_sumOfGreatest_X2_greatestOf : GoodIn wsX2_sumOfGreatest (wsV RX2 62 RX2 yX2_greatestOf wsX2_greatestOf) := goodIn_app (goodIn_of _ (by decide +kernel)) ggX2_sumOfGreatest_X2_greatestOf
theorem dX2_sumOfGreatest_0 : decode cX2_sumOfGreatest 0 = .ok (.iconst 0, 1) := by decide +kernel
theorem dX2_sumOfGreatest_1 : decode cX2_sumOfGreatest 1 = .ok (.istore_n 1, 1) := by decide +kernel
theorem dX2_sumOfGreatest_2 : decode cX2_sumOfGreatest 2 = .ok (.iconst 0, 1) := by decide +kernel
theorem dX2_sumOfGreatest_3 : decode cX2_sumOfGreatest 3 = .ok (.istore_n 2, 1) := by decide +kernel
theorem dX2_sumOfGreatest_4 : decode cX2_sumOfGreatest 4 = .ok (.iload_n 2, 1) := by decide +kernel
theorem dX2_sumOfGreatest_5 : decode cX2_sumOfGreatest 5 = .ok (.aload_n 0, 1) := by decide +kernel
theorem dX2_sumOfGreatest_6 : decode cX2_sumOfGreatest 6 = .ok (.getfield 9, 3) := by decide +kernel
theorem dX2_sumOfGreatest_9 : decode cX2_sumOfGreatest 9 = .ok (.getfield 23, 3) := by decide +kernel
theorem dX2_sumOfGreatest_12 : decode cX2_sumOfGreatest 12 = .ok (.if_icmp .ge 17, 3) := by decide +kernel
theorem dX2_sumOfGreatest_15 : decode cX2_sumOfGreatest 15 = .ok (.iload_n 1, 1) := by decide +kernel
theorem dX2_sumOfGreatest_16 : decode cX2_sumOfGreatest 16 = .ok (.aload_n 0, 1) := by decide +kernel
theorem dX2_sumOfGreatest_17 : decode cX2_sumOfGreatest 17 = .ok (.iload_n 2, 1) := by decide +kernel
theorem dX2_sumOfGreatest_18 : decode cX2_sumOfGreatest 18 = .ok (.invokevirtual 62, 3) := by decide +kernel
theorem dX2_sumOfGreatest_21 : decode cX2_sumOfGreatest 21 = .ok (.iadd, 1) := by decide +kernel
theorem dX2_sumOfGreatest_22 : decode cX2_sumOfGreatest 22 = .ok (.istore_n 1, 1) := by decide +kernel
theorem dX2_sumOfGreatest_23 : decode cX2_sumOfGreatest 23 = .ok (.iinc 2 1, 3) := by decide +kernel
theorem dX2_sumOfGreatest_26 : decode cX2_sumOfGreatest 26 = .ok (.goto (-22), 3) := by decide +kernel
theorem dX2_sumOfGreatest_29 : decode cX2_sumOfGreatest 29 = .ok (.iload_n 1, 1) := by decide +kernel
theorem dX2_sumOfGreatest_30 : decode cX2_sumOfGreatest 30 = .ok (.ireturn, 1) := by decide +kernel
set_option maxRecDepth 20000 in
theorem ggX2_worthOf_X4_isBarred : GoodIn wsX2_worthOf wsX4_isBarred := goodIn_r _ [14, 15, 19, 20, 21, 22] (by decide +kernel) (by decide +kernel)
set_option maxRecDepth 20000 in
theorem gX2_worthOf_X4_isBarred : GoodIn wsX2_worthOf (wsV RX2 45 RX4 yX4_isBarred wsX4_isBarred) := goodIn_app (goodIn_of _ (by decide +kernel)) ggX2_worthOf_X4_isBarred
theorem dX2_worthOf_0 : decode cX2_worthOf 0 = .ok (.aload_n 0, 1) := by decide +kernel
theorem dX2_worthOf_1 : decode cX2_worthOf 1 = .ok (.getfield 9, 3) := by decide +kernel
theorem dX2_worthOf_4 : decode cX2_worthOf 4 = .ok (.getfield 65, 3) := by decide +kernel
theorem dX2_worthOf_7 : decode cX2_worthOf 7 = .ok (.iload_n 1, 1) := by decide +kernel
theorem dX2_worthOf_8 : decode cX2_worthOf 8 = .ok (.iaload, 1) := by decide +kernel
theorem dX2_worthOf_9 : decode cX2_worthOf 9 = .ok (.istore_n 2, 1) := by decide +kernel
theorem dX2_worthOf_10 : decode cX2_worthOf 10 = .ok (.iconst 0, 1) := by decide +kernel
theorem dX2_worthOf_11 : decode cX2_worthOf 11 = .ok (.istore_n 3, 1) := by decide +kernel
theorem dX2_worthOf_12 : decode cX2_worthOf 12 = .ok (.iload_n 3, 1) := by decide +kernel
theorem dX2_worthOf_13 : decode cX2_worthOf 13 = .ok (.aload_n 0, 1) := by decide +kernel
theorem dX2_worthOf_14 : decode cX2_worthOf 14 = .ok (.getfield 9, 3) := by decide +kernel
theorem dX2_worthOf_17 : decode cX2_worthOf 17 = .ok (.getfield 23, 3) := by decide +kernel
theorem dX2_worthOf_20 : decode cX2_worthOf 20 = .ok (.if_icmp .ge 44, 3) := by decide +kernel
theorem dX2_worthOf_23 : decode cX2_worthOf 23 = .ok (.aload_n 0, 1) := by decide +kernel
theorem dX2_worthOf_24 : decode cX2_worthOf 24 = .ok (.getfield 9, 3) := by decide +kernel
theorem dX2_worthOf_27 : decode cX2_worthOf 27 = .ok (.iload_n 1, 1) := by decide +kernel
theorem dX2_worthOf_28 : decode cX2_worthOf 28 = .ok (.iload_n 3, 1) := by decide +kernel
theorem dX2_worthOf_29 : decode cX2_worthOf 29 = .ok (.invokevirtual 45, 3) := by decide +kernel
theorem dX2_worthOf_32 : decode cX2_worthOf 32 = .ok (.ifCond .ne 26, 3) := by decide +kernel
theorem dX2_worthOf_35 : decode cX2_worthOf 35 = .ok (.iload_n 2, 1) := by decide +kernel
theorem dX2_worthOf_36 : decode cX2_worthOf 36 = .ok (.aload_n 0, 1) := by decide +kernel
theorem dX2_worthOf_37 : decode cX2_worthOf 37 = .ok (.getfield 9, 3) := by decide +kernel
theorem dX2_worthOf_40 : decode cX2_worthOf 40 = .ok (.getfield 49, 3) := by decide +kernel
theorem dX2_worthOf_43 : decode cX2_worthOf 43 = .ok (.iload_n 1, 1) := by decide +kernel
theorem dX2_worthOf_44 : decode cX2_worthOf 44 = .ok (.aaload, 1) := by decide +kernel
theorem dX2_worthOf_45 : decode cX2_worthOf 45 = .ok (.iload_n 3, 1) := by decide +kernel
theorem dX2_worthOf_46 : decode cX2_worthOf 46 = .ok (.iaload, 1) := by decide +kernel
theorem dX2_worthOf_47 : decode cX2_worthOf 47 = .ok (.aload_n 0, 1) := by decide +kernel
theorem dX2_worthOf_48 : decode cX2_worthOf 48 = .ok (.getfield 19, 3) := by decide +kernel
theorem dX2_worthOf_51 : decode cX2_worthOf 51 = .ok (.iload_n 3, 1) := by decide +kernel
theorem dX2_worthOf_52 : decode cX2_worthOf 52 = .ok (.iaload, 1) := by decide +kernel
theorem dX2_worthOf_53 : decode cX2_worthOf 53 = .ok (.iadd, 1) := by decide +kernel
theorem dX2_worthOf_54 : decode cX2_worthOf 54 = .ok (.invokestatic 68, 3) := by decide +kernel
theorem dX2_worthOf_57 : decode cX2_worthOf 57 = .ok (.istore_n 2, 1) := by decide +kernel
theorem dX2_worthOf_58 : decode cX2_worthOf 58 = .ok (.iinc 3 1, 3) := by decide +kernel
theorem dX2_worthOf_61 : decode cX2_worthOf 61 = .ok (.goto (-49), 3) := by decide +kernel
theorem dX2_worthOf_64 : decode cX2_worthOf 64 = .ok (.iload_n 2, 1) := by decide +kernel
theorem dX2_worthOf_65 : decode cX2_worthOf 65 = .ok (.ireturn, 1) := by decide +kernel
set_option maxRecDepth 20000 in
theorem ggX2_sumOfWorths_X2_worthOf : GoodIn wsX2_sumOfWorths wsX2_worthOf := goodIn_r _ [7, 1, 8, 9, 10, 11, 12, 13, 14, 15, 16, 17, 18, 19, 20, 21, 22, 23, 24, 25, 26, 27, 28] (by decide +kernel) (by decide +kernel)
set_option maxRecDepth 20000 in
theorem gX2_sumOfWorths_X2_worthOf : GoodIn wsX2_sumOfWorths (wsV RX2 71 RX2 yX2_worthOf wsX2_worthOf) := goodIn_app (goodIn_of _ (by decide +kernel)) ggX2_sumOfWorths_X2_worthOf
theorem dX2_sumOfWorths_0 : decode cX2_sumOfWorths 0 = .ok (.iconst 0, 1) := by decide +kernel
theorem dX2_sumOfWorths_1 : decode cX2_sumOfWorths 1 = .ok (.istore_n 1, 1) := by decide +kernel
theorem dX2_sumOfWorths_2 : decode cX2_sumOfWorths 2 = .ok (.iconst 0, 1) := by decide +kernel
theorem dX2_sumOfWorths_3 : decode cX2_sumOfWorths 3 = .ok (.istore_n 2, 1) := by decide +kernel
theorem dX2_sumOfWorths_4 : decode cX2_sumOfWorths 4 = .ok (.iload_n 2, 1) := by decide +kernel
theorem dX2_sumOfWorths_5 : decode cX2_sumOfWorths 5 = .ok (.aload_n 0, 1) := by decide +kernel
theorem dX2_sumOfWorths_6 : decode cX2_sumOfWorths 6 = .ok (.getfield 9, 3) := by decide +kernel
theorem dX2_sumOfWorths_9 : decode cX2_sumOfWorths 9 = .ok (.getfield 35, 3) := by decide +kernel
theorem dX2_sumOfWorths_12 : decode cX2_sumOfWorths 12 = .ok (.if_icmp .ge 17, 3) := by decide +kernel
theorem dX2_sumOfWorths_15 : decode cX2_sumOfWorths 15 = .ok (.iload_n 1, 1) := by decide +kernel
theorem dX2_sumOfWorths_16 : decode cX2_sumOfWorths 16 = .ok (.aload_n 0, 1) := by decide +kernel
theorem dX2_sumOfWorths_17 : decode cX2_sumOfWorths 17 = .ok (.iload_n 2, 1) := by decide +kernel
theorem dX2_sumOfWorths_18 : decode cX2_sumOfWorths 18 = .ok (.invokevirtual 71, 3) := by decide +kernel
theorem dX2_sumOfWorths_21 : decode cX2_sumOfWorths 21 = .ok (.iadd, 1) := by decide +kernel
theorem dX2_sumOfWorths_22 : decode cX2_sumOfWorths 22 = .ok (.istore_n 1, 1) := by decide +kernel
theorem dX2_sumOfWorths_23 : decode cX2_sumOfWorths 23 = .ok (.iinc 2 1, 3) := by decide +kernel
theorem dX2_sumOfWorths_26 : decode cX2_sumOfWorths 26 = .ok (.goto (-22), 3) := by decide +kernel
theorem dX2_sumOfWorths_29 : decode cX2_sumOfWorths 29 = .ok (.iload_n 1, 1) := by decide +kernel
theorem dX2_sumOfWorths_30 : decode cX2_sumOfWorths 30 = .ok (.ireturn, 1) := by decide +kernel
set_option maxRecDepth 20000 in
theorem ggX2_tightTasksOf_X2_worthOf : GoodIn wsX2_tightTasksOf wsX2_worthOf := goodIn_r _ [9, 1, 10, 2, 3, 4, 11, 12, 13, 14, 15, 16, 17, 18, 19, 20, 21, 22, 23, 24, 25, 26, 27] (by decide +kernel) (by decide +kernel)
set_option maxRecDepth 20000 in
theorem gX2_tightTasksOf_X2_worthOf : GoodIn wsX2_tightTasksOf (wsV RX2 71 RX2 yX2_worthOf wsX2_worthOf) := goodIn_app (goodIn_of _ (by decide +kernel)) ggX2_tightTasksOf_X2_worthOf
set_option maxRecDepth 20000 in
theorem ggX2_tightTasksOf_X4_isBarred : GoodIn wsX2_tightTasksOf wsX4_isBarred := goodIn_r _ [19, 20, 24, 25, 26, 27] (by decide +kernel) (by decide +kernel)
set_option maxRecDepth 20000 in
theorem gX2_tightTasksOf_X4_isBarred : GoodIn wsX2_tightTasksOf (wsV RX2 45 RX4 yX4_isBarred wsX4_isBarred) := goodIn_app (goodIn_of _ (by decide +kernel)) ggX2_tightTasksOf_X4_isBarred
theorem dX2_tightTasksOf_0 : decode cX2_tightTasksOf 0 = .ok (.aload_n 0, 1) := by decide +kernel
theorem dX2_tightTasksOf_1 : decode cX2_tightTasksOf 1 = .ok (.iload_n 1, 1) := by decide +kernel
theorem dX2_tightTasksOf_2 : decode cX2_tightTasksOf 2 = .ok (.invokevirtual 71, 3) := by decide +kernel
theorem dX2_tightTasksOf_5 : decode cX2_tightTasksOf 5 = .ok (.istore_n 2, 1) := by decide +kernel
theorem dX2_tightTasksOf_6 : decode cX2_tightTasksOf 6 = .ok (.iconst 0, 1) := by decide +kernel
theorem dX2_tightTasksOf_7 : decode cX2_tightTasksOf 7 = .ok (.istore_n 3, 1) := by decide +kernel
theorem dX2_tightTasksOf_8 : decode cX2_tightTasksOf 8 = .ok (.iconst 0, 1) := by decide +kernel
theorem dX2_tightTasksOf_9 : decode cX2_tightTasksOf 9 = .ok (.istore 4, 2) := by decide +kernel
theorem dX2_tightTasksOf_11 : decode cX2_tightTasksOf 11 = .ok (.iload 4, 2) := by decide +kernel
theorem dX2_tightTasksOf_13 : decode cX2_tightTasksOf 13 = .ok (.aload_n 0, 1) := by decide +kernel
theorem dX2_tightTasksOf_14 : decode cX2_tightTasksOf 14 = .ok (.getfield 9, 3) := by decide +kernel
theorem dX2_tightTasksOf_17 : decode cX2_tightTasksOf 17 = .ok (.getfield 23, 3) := by decide +kernel
theorem dX2_tightTasksOf_20 : decode cX2_tightTasksOf 20 = .ok (.if_icmp .ge 53, 3) := by decide +kernel
theorem dX2_tightTasksOf_23 : decode cX2_tightTasksOf 23 = .ok (.aload_n 0, 1) := by decide +kernel
theorem dX2_tightTasksOf_24 : decode cX2_tightTasksOf 24 = .ok (.getfield 9, 3) := by decide +kernel
theorem dX2_tightTasksOf_27 : decode cX2_tightTasksOf 27 = .ok (.iload_n 1, 1) := by decide +kernel
theorem dX2_tightTasksOf_28 : decode cX2_tightTasksOf 28 = .ok (.iload 4, 2) := by decide +kernel
theorem dX2_tightTasksOf_30 : decode cX2_tightTasksOf 30 = .ok (.invokevirtual 45, 3) := by decide +kernel
theorem dX2_tightTasksOf_33 : decode cX2_tightTasksOf 33 = .ok (.ifCond .ne 34, 3) := by decide +kernel
theorem dX2_tightTasksOf_36 : decode cX2_tightTasksOf 36 = .ok (.aload_n 0, 1) := by decide +kernel
theorem dX2_tightTasksOf_37 : decode cX2_tightTasksOf 37 = .ok (.getfield 9, 3) := by decide +kernel
theorem dX2_tightTasksOf_40 : decode cX2_tightTasksOf 40 = .ok (.getfield 49, 3) := by decide +kernel
theorem dX2_tightTasksOf_43 : decode cX2_tightTasksOf 43 = .ok (.iload_n 1, 1) := by decide +kernel
theorem dX2_tightTasksOf_44 : decode cX2_tightTasksOf 44 = .ok (.aaload, 1) := by decide +kernel
theorem dX2_tightTasksOf_45 : decode cX2_tightTasksOf 45 = .ok (.iload 4, 2) := by decide +kernel
theorem dX2_tightTasksOf_47 : decode cX2_tightTasksOf 47 = .ok (.iaload, 1) := by decide +kernel
theorem dX2_tightTasksOf_48 : decode cX2_tightTasksOf 48 = .ok (.aload_n 0, 1) := by decide +kernel
theorem dX2_tightTasksOf_49 : decode cX2_tightTasksOf 49 = .ok (.getfield 19, 3) := by decide +kernel
theorem dX2_tightTasksOf_52 : decode cX2_tightTasksOf 52 = .ok (.iload 4, 2) := by decide +kernel
theorem dX2_tightTasksOf_54 : decode cX2_tightTasksOf 54 = .ok (.iaload, 1) := by decide +kernel
theorem dX2_tightTasksOf_55 : decode cX2_tightTasksOf 55 = .ok (.iadd, 1) := by decide +kernel
theorem dX2_tightTasksOf_56 : decode cX2_tightTasksOf 56 = .ok (.iload_n 2, 1) := by decide +kernel
theorem dX2_tightTasksOf_57 : decode cX2_tightTasksOf 57 = .ok (.if_icmp .ne 10, 3) := by decide +kernel
theorem dX2_tightTasksOf_60 : decode cX2_tightTasksOf 60 = .ok (.iload_n 3, 1) := by decide +kernel
theorem dX2_tightTasksOf_61 : decode cX2_tightTasksOf 61 = .ok (.iconst 1, 1) := by decide +kernel
theorem dX2_tightTasksOf_62 : decode cX2_tightTasksOf 62 = .ok (.iload 4, 2) := by decide +kernel
theorem dX2_tightTasksOf_64 : decode cX2_tightTasksOf 64 = .ok (.ishl, 1) := by decide +kernel
theorem dX2_tightTasksOf_65 : decode cX2_tightTasksOf 65 = .ok (.ior, 1) := by decide +kernel
theorem dX2_tightTasksOf_66 : decode cX2_tightTasksOf 66 = .ok (.istore_n 3, 1) := by decide +kernel
theorem dX2_tightTasksOf_67 : decode cX2_tightTasksOf 67 = .ok (.iinc 4 1, 3) := by decide +kernel
theorem dX2_tightTasksOf_70 : decode cX2_tightTasksOf 70 = .ok (.goto (-59), 3) := by decide +kernel
theorem dX2_tightTasksOf_73 : decode cX2_tightTasksOf 73 = .ok (.iload_n 3, 1) := by decide +kernel
theorem dX2_tightTasksOf_74 : decode cX2_tightTasksOf 74 = .ok (.ireturn, 1) := by decide +kernel
set_option maxRecDepth 20000 in
theorem ggX2_tightPairs_X2_tightTasksOf : GoodIn wsX2_tightPairs wsX2_tightTasksOf := goodIn_r _ [7, 1, 8, 9, 10, 11, 12, 13, 6, 14, 15, 16, 17, 18, 19, 20, 21, 22, 23, 24, 25, 33, 34, 35, 36, 37, 38, 39] (by decide +kernel) (by decide +kernel)
set_option maxRecDepth 20000 in
theorem gX2_tightPairs_X2_tightTasksOf : GoodIn wsX2_tightPairs (wsV RX2 74 RX2 yX2_tightTasksOf wsX2_tightTasksOf) := goodIn_app (goodIn_of _ (by decide +kernel)) ggX2_tightPairs_X2_tightTasksOf
set_option maxRecDepth 20000 in
theorem ggX2_tightPairs_J6_bitCount_0f7a4 : GoodIn wsX2_tightPairs wsJ6_bitCount_0f7a4 := goodIn_r _ [29, 30, 31, 32] (by decide +kernel) (by decide +kernel)
set_option maxRecDepth 20000 in
theorem gX2_tightPairs_J6_bitCount_0f7a4 : GoodIn wsX2_tightPairs (va_wsS RX2 77 yJ6_bitCount_0f7a4 wsJ6_bitCount_0f7a4) := goodIn_app (goodIn_of _ (by decide +kernel)) ggX2_tightPairs_J6_bitCount_0f7a4
theorem dX2_tightPairs_0 : decode cX2_tightPairs 0 = .ok (.iconst 0, 1) := by decide +kernel
theorem dX2_tightPairs_1 : decode cX2_tightPairs 1 = .ok (.istore_n 1, 1) := by decide +kernel
theorem dX2_tightPairs_2 : decode cX2_tightPairs 2 = .ok (.iconst 0, 1) := by decide +kernel
theorem dX2_tightPairs_3 : decode cX2_tightPairs 3 = .ok (.istore_n 2, 1) := by decide +kernel
theorem dX2_tightPairs_4 : decode cX2_tightPairs 4 = .ok (.iload_n 2, 1) := by decide +kernel
theorem dX2_tightPairs_5 : decode cX2_tightPairs 5 = .ok (.aload_n 0, 1) := by decide +kernel
theorem dX2_tightPairs_6 : decode cX2_tightPairs 6 = .ok (.getfield 9, 3) := by decide +kernel
theorem dX2_tightPairs_9 : decode cX2_tightPairs 9 = .ok (.getfield 35, 3) := by decide +kernel
theorem dX2_tightPairs_12 : decode cX2_tightPairs 12 = .ok (.if_icmp .ge 20, 3) := by decide +kernel
theorem dX2_tightPairs_15 : decode cX2_tightPairs 15 = .ok (.iload_n 1, 1) := by decide +kernel
theorem dX2_tightPairs_16 : decode cX2_tightPairs 16 = .ok (.aload_n 0, 1) := by decide +kernel
theorem dX2_tightPairs_17 : decode cX2_tightPairs 17 = .ok (.iload_n 2, 1) := by decide +kernel
theorem dX2_tightPairs_18 : decode cX2_tightPairs 18 = .ok (.invokevirtual 74, 3) := by decide +kernel
theorem dX2_tightPairs_21 : decode cX2_tightPairs 21 = .ok (.invokestatic 77, 3) := by decide +kernel
theorem dX2_tightPairs_24 : decode cX2_tightPairs 24 = .ok (.iadd, 1) := by decide +kernel
theorem dX2_tightPairs_25 : decode cX2_tightPairs 25 = .ok (.istore_n 1, 1) := by decide +kernel
theorem dX2_tightPairs_26 : decode cX2_tightPairs 26 = .ok (.iinc 2 1, 3) := by decide +kernel
theorem dX2_tightPairs_29 : decode cX2_tightPairs 29 = .ok (.goto (-25), 3) := by decide +kernel
theorem dX2_tightPairs_32 : decode cX2_tightPairs 32 = .ok (.iload_n 1, 1) := by decide +kernel
theorem dX2_tightPairs_33 : decode cX2_tightPairs 33 = .ok (.ireturn, 1) := by decide +kernel
end
section
theorem dJ6_bitCount_0f7a4_0 : decode cJ6_bitCount_0f7a4 0 = .ok (.iload_n 0, 1) := by decide +kernel
theorem dJ6_bitCount_0f7a4_1 : decode cJ6_bitCount_0f7a4 1 = .ok (.iload_n 0, 1) := by decide +kernel
theorem dJ6_bitCount_0f7a4_2 : decode cJ6_bitCount_0f7a4 2 = .ok (.iconst 1, 1) := by decide +kernel
theorem dJ6_bitCount_0f7a4_3 : decode cJ6_bitCount_0f7a4 3 = .ok (.iushr, 1) := by decide +kernel
theorem dJ6_bitCount_0f7a4_4 : decode cJ6_bitCount_0f7a4 4 = .ok (.ldc_w 265, 3) := by decide +kernel
theorem dJ6_bitCount_0f7a4_7 : decode cJ6_bitCount_0f7a4 7 = .ok (.iand, 1) := by decide +kernel
theorem dJ6_bitCount_0f7a4_8 : decode cJ6_bitCount_0f7a4 8 = .ok (.isub, 1) := by decide +kernel
theorem dJ6_bitCount_0f7a4_9 : decode cJ6_bitCount_0f7a4 9 = .ok (.istore_n 0, 1) := by decide +kernel
theorem dJ6_bitCount_0f7a4_10 : decode cJ6_bitCount_0f7a4 10 = .ok (.iload_n 0, 1) := by decide +kernel
theorem dJ6_bitCount_0f7a4_11 : decode cJ6_bitCount_0f7a4 11 = .ok (.ldc_w 266, 3) := by decide +kernel
theorem dJ6_bitCount_0f7a4_14 : decode cJ6_bitCount_0f7a4 14 = .ok (.iand, 1) := by decide +kernel
theorem dJ6_bitCount_0f7a4_15 : decode cJ6_bitCount_0f7a4 15 = .ok (.iload_n 0, 1) := by decide +kernel
theorem dJ6_bitCount_0f7a4_16 : decode cJ6_bitCount_0f7a4 16 = .ok (.iconst 2, 1) := by decide +kernel
theorem dJ6_bitCount_0f7a4_17 : decode cJ6_bitCount_0f7a4 17 = .ok (.iushr, 1) := by decide +kernel
theorem dJ6_bitCount_0f7a4_18 : decode cJ6_bitCount_0f7a4 18 = .ok (.ldc_w 266, 3) := by decide +kernel
theorem dJ6_bitCount_0f7a4_21 : decode cJ6_bitCount_0f7a4 21 = .ok (.iand, 1) := by decide +kernel
theorem dJ6_bitCount_0f7a4_22 : decode cJ6_bitCount_0f7a4 22 = .ok (.iadd, 1) := by decide +kernel
theorem dJ6_bitCount_0f7a4_23 : decode cJ6_bitCount_0f7a4 23 = .ok (.istore_n 0, 1) := by decide +kernel
theorem dJ6_bitCount_0f7a4_24 : decode cJ6_bitCount_0f7a4 24 = .ok (.iload_n 0, 1) := by decide +kernel
theorem dJ6_bitCount_0f7a4_25 : decode cJ6_bitCount_0f7a4 25 = .ok (.iload_n 0, 1) := by decide +kernel
theorem dJ6_bitCount_0f7a4_26 : decode cJ6_bitCount_0f7a4 26 = .ok (.iconst 4, 1) := by decide +kernel
theorem dJ6_bitCount_0f7a4_27 : decode cJ6_bitCount_0f7a4 27 = .ok (.iushr, 1) := by decide +kernel
theorem dJ6_bitCount_0f7a4_28 : decode cJ6_bitCount_0f7a4 28 = .ok (.iadd, 1) := by decide +kernel
theorem dJ6_bitCount_0f7a4_29 : decode cJ6_bitCount_0f7a4 29 = .ok (.ldc_w 267, 3) := by decide +kernel
theorem dJ6_bitCount_0f7a4_32 : decode cJ6_bitCount_0f7a4 32 = .ok (.iand, 1) := by decide +kernel
theorem dJ6_bitCount_0f7a4_33 : decode cJ6_bitCount_0f7a4 33 = .ok (.istore_n 0, 1) := by decide +kernel
theorem dJ6_bitCount_0f7a4_34 : decode cJ6_bitCount_0f7a4 34 = .ok (.iload_n 0, 1) := by decide +kernel
theorem dJ6_bitCount_0f7a4_35 : decode cJ6_bitCount_0f7a4 35 = .ok (.iload_n 0, 1) := by decide +kernel
theorem dJ6_bitCount_0f7a4_36 : decode cJ6_bitCount_0f7a4 36 = .ok (.bipush 8, 2) := by decide +kernel
theorem dJ6_bitCount_0f7a4_38 : decode cJ6_bitCount_0f7a4 38 = .ok (.iushr, 1) := by decide +kernel
theorem dJ6_bitCount_0f7a4_39 : decode cJ6_bitCount_0f7a4 39 = .ok (.iadd, 1) := by decide +kernel
theorem dJ6_bitCount_0f7a4_40 : decode cJ6_bitCount_0f7a4 40 = .ok (.istore_n 0, 1) := by decide +kernel
theorem dJ6_bitCount_0f7a4_41 : decode cJ6_bitCount_0f7a4 41 = .ok (.iload_n 0, 1) := by decide +kernel
theorem dJ6_bitCount_0f7a4_42 : decode cJ6_bitCount_0f7a4 42 = .ok (.iload_n 0, 1) := by decide +kernel
theorem dJ6_bitCount_0f7a4_43 : decode cJ6_bitCount_0f7a4 43 = .ok (.bipush 16, 2) := by decide +kernel
theorem dJ6_bitCount_0f7a4_45 : decode cJ6_bitCount_0f7a4 45 = .ok (.iushr, 1) := by decide +kernel
theorem dJ6_bitCount_0f7a4_46 : decode cJ6_bitCount_0f7a4 46 = .ok (.iadd, 1) := by decide +kernel
theorem dJ6_bitCount_0f7a4_47 : decode cJ6_bitCount_0f7a4 47 = .ok (.istore_n 0, 1) := by decide +kernel
theorem dJ6_bitCount_0f7a4_48 : decode cJ6_bitCount_0f7a4 48 = .ok (.iload_n 0, 1) := by decide +kernel
theorem dJ6_bitCount_0f7a4_49 : decode cJ6_bitCount_0f7a4 49 = .ok (.bipush 63, 2) := by decide +kernel
theorem dJ6_bitCount_0f7a4_51 : decode cJ6_bitCount_0f7a4 51 = .ok (.iand, 1) := by decide +kernel
theorem dJ6_bitCount_0f7a4_52 : decode cJ6_bitCount_0f7a4 52 = .ok (.ireturn, 1) := by decide +kernel
end
section
/-! MY CONTRACTS: the prices -/
section LDCW
variable {E : EV} {ad : Int → Nat} {cc : ByteArray} {nL : Nat} {own : String} {Ts : List Cond} {fr lo : Nat} {σ : St} {pc : Nat} {lv : List (Option Value)} {st : List Value}
theorem g_ldcw (X : Cx E ad cc nL own Ts fr lo) {v : Int32} {z : Int} {idx : Nat} (hw : Cond.constant own idx v ∈ Ts) (hv : v = iI z) (hdg : decode cc pc = .ok (.ldc_w idx, 3)) (k : WG E ad nL σ (pc + 3) lv (.int (iI z) :: st)) : WG E ad nL σ pc lv st := by
  obtain ⟨p, l, e, R, s, m, args, below, meth, c, Q, D, cy, A, kc, ks⟩ := E
  obtain ⟨hx, hb, hml, hown, hts, hK, hAp, hAA, hkc, hks, hfr, hlo⟩ := X
  intro hR H locs ls hP hS hl
  subst hv
  exact lv_ldcw hx hb hown (hts _ hw) hdg (k hR H locs ls hP hS hl)
/-- a static method of another class -/
theorem g_SX1 (X : Cx E ad cc nL own Ts fr lo) {y : MethodName} {ws ws' : List Cond} {fr' lo' maxL idx : Nat} {bytes : ByteArray} {ret : Option FieldType} {a1 : Value} {f : Int} {g : St} (hM : MGE E y ws fr' lo' ad σ [a1] (PF f g)) (hG : GoodIn Ts (va_wsS own idx y ws)) (hw : ws = Cond.code y bytes maxL ret :: ws') (hd : y.cls ≠ "java/lang/invoke/MethodHandle" ∧ y.cls ≠ "java/lang/invoke/VarHandle" ∧ (parseMethodDescriptor y.desc).map (fun d => d.parameters.length) = some 1) (hR : fr' + 1 ≤ fr ∧ 8 + (maxL + 11) + lo' ≤ lo) (hcat : (st.map fun v => v.category).sum ≤ 8) (hdg : decode cc pc = .ok (.invokestatic idx, 3)) (kk : InR f → WG E ad nL g (pc + 3) lv (.int (iI f) :: st)) : WG E ad nL σ pc lv (a1 :: st) := by
  obtain ⟨p, l, e, R, s, m, args, below, meth, c, Q, D, cy, A, kc, ks⟩ := E
  obtain ⟨hx, hb, hml, hown, hts, hK, hAp, hAA, hkc, hks, hfr, hlo⟩ := X
  intro hRG H locs ls hP hS hl
  have hrun := va_runS (p := p) (e := e) (R := R) (m := m) (below := below) (meth := meth) (locs := locs) (cells := kc) (slots := ks) (g := F0 m pc ls (a1 :: st)) (As := [a1]) (rest := st) ⟨hx, hb, hml, hown, hts⟩ hM (va_cwS 1 hts hG hw rfl rfl hd ⟨Nat.le_trans hR.1 hfr, Nat.le_trans hR.2 hlo⟩) ⟨fun a U g mk q => ⟨q.1, q.2.calling⟩, fun U hU hW => ⟨rfl, by rw [hU]; exact hP, va_K.moved hW.alike hK, hAp, hRG⟩⟩ rfl rfl hl.1 rfl (lv_room hcat) hdg ⟨hkc, hks⟩
  exact g_after hAA hrun hS hl (k_F (k := fun r σ' => WG _ ad nL σ' (pc + 3) lv ((rO r).toList ++ st)) kk)
end LDCW
def bcN (m : Int) : Int := bt m 0 + bt m 1 + bt m 2 + bt m 3 + bt m 4 + bt m 5 + bt m 6
theorem bc_0 : ∀ n : Nat, n < 128 → ((iI (n : Int)).toUInt32 >>> ((iI 1).toUInt32 &&& Int32.toUInt32 31)).toInt32 = iI ((n / 2 : Nat) : Int) := by decide +kernel
theorem bc_1 : ∀ n : Nat, n < 128 → iI ((n / 2 : Nat) : Int) &&& iI 1431655765 = iI (((n / 2) &&& 1431655765 : Nat) : Int) := by decide +kernel
theorem bc_2 : ∀ n : Nat, n < 128 → iI ((n : Int) - (((n / 2) &&& 1431655765 : Nat) : Int)) &&& iI 858993459 = iI ((((n - ((n / 2) &&& 1431655765))) &&& 858993459 : Nat) : Int) := by decide +kernel
theorem bc_3 : ∀ n : Nat, n < 128 → ((iI ((n : Int) - (((n / 2) &&& 1431655765 : Nat) : Int))).toUInt32 >>> ((iI 2).toUInt32 &&& Int32.toUInt32 31)).toInt32 = iI ((((n - ((n / 2) &&& 1431655765))) / 4 : Nat) : Int) := by decide +kernel
theorem bc_4 : ∀ n : Nat, n < 128 → iI ((((n - ((n / 2) &&& 1431655765))) / 4 : Nat) : Int) &&& iI 858993459 = iI (((((n - ((n / 2) &&& 1431655765))) / 4) &&& 858993459 : Nat) : Int) := by decide +kernel
theorem bc_5 : ∀ n : Nat, n < 128 → ((iI (((((n - ((n / 2) &&& 1431655765))) &&& 858993459 : Nat) : Int) + (((((n - ((n / 2) &&& 1431655765))) / 4) &&& 858993459 : Nat) : Int))).toUInt32 >>> ((iI 4).toUInt32 &&& Int32.toUInt32 31)).toInt32 = iI ((((((n - ((n / 2) &&& 1431655765))) &&& 858993459) + ((((n - ((n / 2) &&& 1431655765))) / 4) &&& 858993459)) / 16 : Nat) : Int) := by decide +kernel
theorem bc_6 : ∀ n : Nat, n < 128 → iI ((((((n - ((n / 2) &&& 1431655765))) &&& 858993459 : Nat) : Int) + (((((n - ((n / 2) &&& 1431655765))) / 4) &&& 858993459 : Nat) : Int)) + ((((((n - ((n / 2) &&& 1431655765))) &&& 858993459) + ((((n - ((n / 2) &&& 1431655765))) / 4) &&& 858993459)) / 16 : Nat) : Int)) &&& iI 252645135 = iI ((((((((n - ((n / 2) &&& 1431655765))) &&& 858993459) + ((((n - ((n / 2) &&& 1431655765))) / 4) &&& 858993459)) + ((((n - ((n / 2) &&& 1431655765))) &&& 858993459) + ((((n - ((n / 2) &&& 1431655765))) / 4) &&& 858993459)) / 16) &&& 252645135) : Nat) : Int) := by decide +kernel
theorem bc_7 : ∀ n : Nat, n < 128 → ((iI ((((((((n - ((n / 2) &&& 1431655765))) &&& 858993459) + ((((n - ((n / 2) &&& 1431655765))) / 4) &&& 858993459)) + ((((n - ((n / 2) &&& 1431655765))) &&& 858993459) + ((((n - ((n / 2) &&& 1431655765))) / 4) &&& 858993459)) / 16) &&& 252645135) : Nat) : Int)).toUInt32 >>> ((iI 8).toUInt32 &&& Int32.toUInt32 31)).toInt32 = iI ((((((((n - ((n / 2) &&& 1431655765))) &&& 858993459) + ((((n - ((n / 2) &&& 1431655765))) / 4) &&& 858993459)) + ((((n - ((n / 2) &&& 1431655765))) &&& 858993459) + ((((n - ((n / 2) &&& 1431655765))) / 4) &&& 858993459)) / 16) &&& 252645135) / 256 : Nat) : Int) := by decide +kernel
theorem bc_8 : ∀ n : Nat, n < 128 → ((iI (((((((((n - ((n / 2) &&& 1431655765))) &&& 858993459) + ((((n - ((n / 2) &&& 1431655765))) / 4) &&& 858993459)) + ((((n - ((n / 2) &&& 1431655765))) &&& 858993459) + ((((n - ((n / 2) &&& 1431655765))) / 4) &&& 858993459)) / 16) &&& 252645135) : Nat) : Int) + ((((((((n - ((n / 2) &&& 1431655765))) &&& 858993459) + ((((n - ((n / 2) &&& 1431655765))) / 4) &&& 858993459)) + ((((n - ((n / 2) &&& 1431655765))) &&& 858993459) + ((((n - ((n / 2) &&& 1431655765))) / 4) &&& 858993459)) / 16) &&& 252645135) / 256 : Nat) : Int))).toUInt32 >>> ((iI 16).toUInt32 &&& Int32.toUInt32 31)).toInt32 = iI (((((((((n - ((n / 2) &&& 1431655765))) &&& 858993459) + ((((n - ((n / 2) &&& 1431655765))) / 4) &&& 858993459)) + ((((n - ((n / 2) &&& 1431655765))) &&& 858993459) + ((((n - ((n / 2) &&& 1431655765))) / 4) &&& 858993459)) / 16) &&& 252645135) + ((((((n - ((n / 2) &&& 1431655765))) &&& 858993459) + ((((n - ((n / 2) &&& 1431655765))) / 4) &&& 858993459)) + ((((n - ((n / 2) &&& 1431655765))) &&& 858993459) + ((((n - ((n / 2) &&& 1431655765))) / 4) &&& 858993459)) / 16) &&& 252645135) / 256) / 65536 : Nat) : Int) := by decide +kernel
theorem bc_9 : ∀ n : Nat, n < 128 → iI ((((((((((n - ((n / 2) &&& 1431655765))) &&& 858993459) + ((((n - ((n / 2) &&& 1431655765))) / 4) &&& 858993459)) + ((((n - ((n / 2) &&& 1431655765))) &&& 858993459) + ((((n - ((n / 2) &&& 1431655765))) / 4) &&& 858993459)) / 16) &&& 252645135) : Nat) : Int) + ((((((((n - ((n / 2) &&& 1431655765))) &&& 858993459) + ((((n - ((n / 2) &&& 1431655765))) / 4) &&& 858993459)) + ((((n - ((n / 2) &&& 1431655765))) &&& 858993459) + ((((n - ((n / 2) &&& 1431655765))) / 4) &&& 858993459)) / 16) &&& 252645135) / 256 : Nat) : Int)) + (((((((((n - ((n / 2) &&& 1431655765))) &&& 858993459) + ((((n - ((n / 2) &&& 1431655765))) / 4) &&& 858993459)) + ((((n - ((n / 2) &&& 1431655765))) &&& 858993459) + ((((n - ((n / 2) &&& 1431655765))) / 4) &&& 858993459)) / 16) &&& 252645135) + ((((((n - ((n / 2) &&& 1431655765))) &&& 858993459) + ((((n - ((n / 2) &&& 1431655765))) / 4) &&& 858993459)) + ((((n - ((n / 2) &&& 1431655765))) &&& 858993459) + ((((n - ((n / 2) &&& 1431655765))) / 4) &&& 858993459)) / 16) &&& 252645135) / 256) / 65536 : Nat) : Int)) &&& iI 63 = iI (bcN (n : Int)) := by decide +kernel
set_option maxHeartbeats 4000000 in
set_option maxRecDepth 100000 in
theorem k_bitCount (E0 : EV) {ad : Int → Nat} {σ : St} {m : Int} (hm : 0 ≤ m ∧ m < 128) : MGE E0 yJ6_bitCount_0f7a4 wsJ6_bitCount_0f7a4 0 0 ad σ [.int (iI m)] (PF (bcN m) σ) := by
  obtain ⟨n, rfl⟩ := Int.eq_ofNat_of_zero_le hm.1
  have hn : n < 128 := by omega
  refine MGE.of (cc := cJ6_bitCount_0f7a4) (maxL := 1) (ret := some .int) (own := RJ6) [some (.int (iI n))] (by decide +kernel) rfl rfl (Nat.le_of_ble_eq_true rfl) rfl rfl (fun E X hr => ?_)
  refine g_iload0 X dJ6_bitCount_0f7a4_0 ?_
  refine g_iload0 X dJ6_bitCount_0f7a4_1 ?_
  refine g_iconst X dJ6_bitCount_0f7a4_2 ?_
  refine g_iushr X (bc_0 n hn) dJ6_bitCount_0f7a4_3 ?_
  refine g_ldcw X (z := 1431655765) (by decide +kernel) rfl dJ6_bitCount_0f7a4_4 ?_
  refine g_iand X (bc_1 n hn) dJ6_bitCount_0f7a4_7 ?_
  refine g_isub X dJ6_bitCount_0f7a4_8 ?_
  refine g_istore0 X dJ6_bitCount_0f7a4_9 (by decide) ?_
  refine g_iload0 X dJ6_bitCount_0f7a4_10 ?_
  refine g_ldcw X (z := 858993459) (by decide +kernel) rfl dJ6_bitCount_0f7a4_11 ?_
  refine g_iand X (bc_2 n hn) dJ6_bitCount_0f7a4_14 ?_
  refine g_iload0 X dJ6_bitCount_0f7a4_15 ?_
  refine g_iconst X dJ6_bitCount_0f7a4_16 ?_
  refine g_iushr X (bc_3 n hn) dJ6_bitCount_0f7a4_17 ?_
  refine g_ldcw X (z := 858993459) (by decide +kernel) rfl dJ6_bitCount_0f7a4_18 ?_
  refine g_iand X (bc_4 n hn) dJ6_bitCount_0f7a4_21 ?_
  refine g_iadd X dJ6_bitCount_0f7a4_22 ?_
  refine g_istore0 X dJ6_bitCount_0f7a4_23 (by decide) ?_
  refine g_iload0 X dJ6_bitCount_0f7a4_24 ?_
  refine g_iload0 X dJ6_bitCount_0f7a4_25 ?_
  refine g_iconst X dJ6_bitCount_0f7a4_26 ?_
  refine g_iushr X (bc_5 n hn) dJ6_bitCount_0f7a4_27 ?_
  refine g_iadd X dJ6_bitCount_0f7a4_28 ?_
  refine g_ldcw X (z := 252645135) (by decide +kernel) rfl dJ6_bitCount_0f7a4_29 ?_
  refine g_iand X (bc_6 n hn) dJ6_bitCount_0f7a4_32 ?_
  refine g_istore0 X dJ6_bitCount_0f7a4_33 (by decide) ?_
  refine g_iload0 X dJ6_bitCount_0f7a4_34 ?_
  refine g_iload0 X dJ6_bitCount_0f7a4_35 ?_
  refine g_bipush X dJ6_bitCount_0f7a4_36 (by decide +kernel) ?_
  refine g_iushr X (bc_7 n hn) dJ6_bitCount_0f7a4_38 ?_
  refine g_iadd X dJ6_bitCount_0f7a4_39 ?_
  refine g_istore0 X dJ6_bitCount_0f7a4_40 (by decide) ?_
  refine g_iload0 X dJ6_bitCount_0f7a4_41 ?_
  refine g_iload0 X dJ6_bitCount_0f7a4_42 ?_
  refine g_bipush X dJ6_bitCount_0f7a4_43 (by decide +kernel) ?_
  refine g_iushr X (bc_8 n hn) dJ6_bitCount_0f7a4_45 ?_
  refine g_iadd X dJ6_bitCount_0f7a4_46 ?_
  refine g_istore0 X dJ6_bitCount_0f7a4_47 (by decide) ?_
  refine g_iload0 X dJ6_bitCount_0f7a4_48 ?_
  refine g_bipush X dJ6_bitCount_0f7a4_49 (by decide +kernel) ?_
  refine g_iand X (bc_9 n hn) dJ6_bitCount_0f7a4_51 ?_
  have hb := bt_01
  have h0 := hb n 0
  have h1 := hb n 1
  have h2 := hb n 2
  have h3 := hb n 3
  have h4 := hb n 4
  have h5 := hb n 5
  have h6 := hb n 6
  exact g_iretF X hr (by unfold InR bcN; omega) ⟨rfl, rfl⟩ dJ6_bitCount_0f7a4_52

/-- the share of a worker, less the cost of a pair -/
def shR (σ : St) (w : Int) : Int := RW σ (AW σ) 0 0 - RW σ (ub (AW σ) w) 0 0
/-- the least price of a task, of the workers below i -/
def lpS (σ : St) (j i : Int) : Int := FI (fun a w => if isB σ 0 w j = 1 then a else max a (shR σ w - σ (TR 0 w) j)) 0 i
theorem lpS_s {σ : St} {j i : Int} (h : 0 ≤ i) : lpS σ j (i + 1) = if isB σ 0 i j = 1 then lpS σ j i else max (lpS σ j i) (shR σ i - σ (TR 0 i) j) := FI_s h
def lpP (σ : St) (j : Int) : Int := lpS σ j (σ (TB 0) 0)
def FR7 (σ σ' : St) : Prop := ∀ q k, q ≠ 7 → (q < 71 ∨ 79 ≤ q) → σ' q k = σ q k
def PLs (σ σ' : St) : Prop := FR7 σ σ' ∧ ∀ j, 0 ≤ j → j < σ (TB 0) 1 → σ' 7 j = lpP σ j
/-- prices are laid, in their range -/
def PL (σ : St) : Prop := ∀ j, 0 ≤ j → j < σ (TB 0) 1 → 0 ≤ σ 7 j ∧ σ 7 j ≤ 80000
theorem shR_b {σ : St} (hT : TOK σ 0) (w : Int) : -70000 ≤ shR σ w ∧ shR σ w ≤ 70000 := by
  have h1 := RW_b hT (AW σ) 0 0 (by omega)
  have h2 := RW_b hT (ub (AW σ) w) 0 0 (by omega)
  unfold shR
  omega
theorem lpS_b {σ : St} (hT : TOK σ 0) {j : Int} (hj : 0 ≤ j ∧ j < 7) : ∀ n : Nat, (n : Int) ≤ 7 → 0 ≤ lpS σ j n ∧ lpS σ j n ≤ 70001 := by
  intro n
  induction n with
  | zero => intro _; show (0 : Int) ≤ 0 ∧ (0 : Int) ≤ 70001; omega
  | succ n ih =>
    intro hn
    have ih' := ih (by omega)
    have e : ((n + 1 : Nat) : Int) = (n : Int) + 1 := by omega
    rw [e, lpS_s (by omega)]
    have h1 := shR_b hT n
    have h2 := hT.2.2.2 n j (by omega) (by omega) hj.1 hj.2
    by_cases hc : isB σ 0 n j = 1
    · rw [if_pos hc]; exact ih'
    · rw [if_neg hc]; omega
theorem lpP_b {σ : St} (hT : TOK σ 0) {j : Int} (hj : 0 ≤ j ∧ j < 7) : 0 ≤ lpP σ j ∧ lpP σ j ≤ 70001 := by
  have hm := hT.1
  have h := lpS_b hT hj (σ (TB 0) 0).toNat (by omega)
  rw [Int.toNat_of_nonneg hm.1] at h
  exact h
theorem FR7.tok {σ σ' : St} (h : TOK σ 0) (hf : FR7 σ σ') : TOK σ' 0 := by
  have e : ∀ q k, q ≠ 7 → q < 71 → σ' q k = σ q k := fun q k h7 hq => hf q k h7 (Or.inl hq)
  refine ⟨?_, ?_, fun w h1 h2 => ?_, fun w j h1 h2 h3 h4 => ?_⟩
  · rw [e _ _ (by unfold TB; omega) (by unfold TB; omega)]; exact h.1
  · rw [e _ _ (by unfold TB; omega) (by unfold TB; omega)]; exact h.2.1
  · rw [e _ _ (by unfold TI; omega) (by unfold TI; omega)]; exact h.2.2.1 w h1 h2
  · rw [e _ _ (by unfold TR; omega) (by unfold TR; omega)]; exact h.2.2.2 w j h1 h2 h3 h4
theorem RW_FR7 {σ σ' : St} (hT : TOK σ 0) (hF : FR7 σ σ') (wk w tk : Int) (hw : 0 ≤ w) : RW σ' wk w tk = RW σ wk w tk := by
  have e0 : σ' (TB 0) 0 = σ (TB 0) 0 := hF _ _ (by unfold TB; omega) (by unfold TB; omega)
  have e1 : σ' (TB 0) 1 = σ (TB 0) 1 := hF _ _ (by unfold TB; omega) (by unfold TB; omega)
  have hm := hT.1
  unfold RW LTc
  rw [e0, e1]
  refine LT_congr hT.2.1.1 _ (fun v hv => hF _ _ (by unfold TI; omega) (by unfold TI; omega)) (fun v hv j _ _ => hF _ _ ?_ ?_) tk
  · have := wl_in _ v hv; unfold TR; omega
  · have := wl_in _ v hv; unfold TR; omega
theorem AW_FR7 {σ σ' : St} (hF : FR7 σ σ') : AW σ' = AW σ := by
  unfold AW
  rw [hF (TB 0) 0 (by unfold TB; omega) (by unfold TB; omega)]
theorem PLs.pl {σ σ' : St} (hT : TOK σ 0) (h : PLs σ σ') : PL σ' := fun j h1 h2 => by
  have e1 : σ' (TB 0) 1 = σ (TB 0) 1 := h.1 _ _ (by unfold TB; omega) (by unfold TB; omega)
  have hn := hT.2.1
  rw [e1] at h2
  rw [h.2 j h1 h2]
  have := lpP_b hT (j := j) (by omega)
  omega
def sL (σ : St) (i : Int) : Int := FI (fun a j => a + σ 7 j) 0 i
theorem sL_s {σ : St} {i : Int} (h : 0 ≤ i) : sL σ (i + 1) = sL σ i + σ 7 i := FI_s h
def grP (σ : St) (j : Int) : Int := RW σ (AW σ) 0 (p2 j) - RW σ (AW σ) 0 0
def sG (σ : St) (i : Int) : Int := FI (fun a j => a + grP σ j) 0 i
theorem sG_s {σ : St} {i : Int} (h : 0 ≤ i) : sG σ (i + 1) = sG σ i + grP σ i := FI_s h
def wO (σ : St) (w i : Int) : Int := FI (fun a j => if isB σ 0 w j = 1 then a else min a (σ (TR 0 w) j + σ 7 j)) (σ (TI 0) w) i
theorem wO_s {σ : St} {w i : Int} (h : 0 ≤ i) : wO σ w (i + 1) = if isB σ 0 w i = 1 then wO σ w i else min (wO σ w i) (σ (TR 0 w) i + σ 7 i) := FI_s h
def wOr (σ : St) (w : Int) : Int := wO σ w (σ (TB 0) 1)
theorem wOr_b {σ : St} (hT : TOK σ 0) (hPL : PL σ) {w : Int} (hw : 0 ≤ w ∧ w < 7) : -1 ≤ wOr σ w ∧ wOr σ w ≤ 9999 := by
  have hn := hT.2.1
  have hd := hT.2.2.1 w hw.1 hw.2
  have key : ∀ n : Nat, (n : Int) ≤ σ (TB 0) 1 → -1 ≤ wO σ w n ∧ wO σ w n ≤ 9999 := by
    intro n
    induction n with
    | zero => intro _; show -1 ≤ σ (TI 0) w ∧ σ (TI 0) w ≤ 9999; omega
    | succ n ih =>
      intro h
      have ih' := ih (by omega)
      have e : ((n + 1 : Nat) : Int) = (n : Int) + 1 := by omega
      rw [e, wO_s (by omega)]
      have h1 := hPL n (by omega) (by omega)
      have h2 := hT.2.2.2 w n hw.1 hw.2 (by omega) (by omega)
      by_cases hc : isB σ 0 w n = 1
      · rw [if_pos hc]; exact ih'
      · rw [if_neg hc]; omega
  have := key (σ (TB 0) 1).toNat (by omega)
  rw [Int.toNat_of_nonneg hn.1] at this
  exact this
def sW (σ : St) (i : Int) : Int := FI (fun a w => a + wOr σ w) 0 i
theorem sW_s {σ : St} {i : Int} (h : 0 ≤ i) : sW σ (i + 1) = sW σ i + wOr σ i := FI_s h
def tgS (σ : St) (w i : Int) : Int := FI (fun a j => if isB σ 0 w j ≠ 1 ∧ σ (TR 0 w) j + σ 7 j = wOr σ w then sb a j else a) 0 i
theorem tgS_s {σ : St} {w i : Int} (h : 0 ≤ i) : tgS σ w (i + 1) = if isB σ 0 w i ≠ 1 ∧ σ (TR 0 w) i + σ 7 i = wOr σ w then sb (tgS σ w i) i else tgS σ w i := FI_s h
def tgT (σ : St) (w : Int) : Int := tgS σ w (σ (TB 0) 1)
theorem tgS_b {σ : St} {w : Int} : ∀ n : Nat, (n : Int) ≤ 7 → 0 ≤ tgS σ w n ∧ tgS σ w n < p2 n := by
  intro n
  induction n with
  | zero => intro _; show (0 : Int) ≤ 0 ∧ (0 : Int) < 1; omega
  | succ n ih =>
    intro h
    have ih' := ih (by omega)
    have e : ((n + 1 : Nat) : Int) = (n : Int) + 1 := by omega
    rw [e, tgS_s (by omega)]
    have h1 := p2_lt (k := n) (n := (n : Int) + 1) (by omega) (by omega) (by omega)
    by_cases hc : isB σ 0 w n ≠ 1 ∧ σ (TR 0 w) n + σ 7 n = wOr σ w
    · rw [if_pos hc]
      exact sb_lt (n := (n : Int) + 1) (by omega) (by omega) (by omega)
    · rw [if_neg hc]; omega
theorem tgT_b {σ : St} (hT : TOK σ 0) (w : Int) : 0 ≤ tgT σ w ∧ tgT σ w < 128 := by
  have hn := hT.2.1
  have h := tgS_b (σ := σ) (w := w) (σ (TB 0) 1).toNat (by omega)
  rw [Int.toNat_of_nonneg hn.1] at h
  have := p2_n hn
  unfold tgT
  omega
def tP (σ : St) (i : Int) : Int := FI (fun a w => a + bcN (tgT σ w)) 0 i
theorem tP_s {σ : St} {i : Int} (h : 0 ≤ i) : tP σ (i + 1) = tP σ i + bcN (tgT σ i) := FI_s h
theorem bcN_b (m : Int) : 0 ≤ bcN m ∧ bcN m ≤ 7 := by
  have hb := bt_01 m
  have h0 := hb 0
  have h1 := hb 1
  have h2 := hb 2
  have h3 := hb 3
  have h4 := hb 4
  have h5 := hb 5
  have h6 := hb 6
  unfold bcN
  omega
set_option maxHeartbeats 4000000 in
set_option maxRecDepth 100000 in
theorem k_X2_greatestOf (E0 : EV) {ad : Int → Nat} {σ : St} {j : Int} (hT0 : TOK σ 0) (hj : 0 ≤ j ∧ j < σ (TB 0) 1) : MGE E0 yX2_greatestOf wsX2_greatestOf 4 94 ad σ [.ref (ad 6), .int (iI j)] (PI (fun z σ' => z = grP σ j ∧ FR σ σ')) := by
  refine MGE.of (cc := cX2_greatestOf) (maxL := 2) (ret := (some .int)) (own := RX2) [some (.ref (ad 6)), some (.int (iI j))] (by decide +kernel) rfl rfl (Nat.le_of_ble_eq_true rfl) rfl rfl (fun E X hr => ?_)
  have i2 : ∀ w ∈ wsX20, w ∈ wsX2_greatestOf := by decide +kernel
  refine g_rg (fun hR0 => ?_)
  have hm := hT0.1
  have hn := hT0.2.1
  refine g_aload0 X dX2_greatestOf_0 ?_
  refine gf_2_plans X i2 (by decide +kernel) dX2_greatestOf_1 ?_
  refine g_iload1 X dX2_greatestOf_4 ?_
  refine g_I1 X (k_X1_lossWithoutTask E hT0 (by omega)) gX2_greatestOf_X1_lossWithoutTask rfl (by decide +kernel) (by decide) ob_3 (Nat.le_of_ble_eq_true rfl) dX2_greatestOf_5 (fun z5 σ5 hz5 hp5 => ?_)
  refine g_rg (fun hR5 => ?_)
  exact g_iret X hr (by first | exact hR5 _ _ | exact hR0 _ _ | assumption | (unfold InR; omega)) hp5 dX2_greatestOf_8

set_option maxHeartbeats 4000000 in
set_option maxRecDepth 100000 in
theorem k_X2_sumOfLeast (E0 : EV) {ad : Int → Nat} {σ : St} (hT0 : TOK σ 0) (hPL : PL σ) : MGE E0 yX2_sumOfLeast wsX2_sumOfLeast 0 0 ad σ [.ref (ad 6)] (PF (sL σ (σ (TB 0) 1)) σ) := by
  refine MGE.of (cc := cX2_sumOfLeast) (maxL := 3) (ret := (some .int)) (own := RX2) [some (.ref (ad 6)), none, none] (by decide +kernel) rfl rfl (Nat.le_of_ble_eq_true rfl) rfl rfl (fun E X hr => ?_)
  have i2 : ∀ w ∈ wsX20, w ∈ wsX2_sumOfLeast := by decide +kernel
  have i4 : ∀ w ∈ wsX40, w ∈ wsX2_sumOfLeast := by decide +kernel
  refine g_rg (fun hR0 => ?_)
  have hm := hT0.1
  have hn := hT0.2.1
  refine g_iconst X dX2_sumOfLeast_0 ?_
  refine g_istore1 X dX2_sumOfLeast_1 (by decide) (by first | exact Or.inl rfl | exact Or.inr ⟨_, rfl, rfl⟩) ?_
  refine g_iconst X dX2_sumOfLeast_2 ?_
  refine g_istore2 X dX2_sumOfLeast_3 (by decide) (by first | exact Or.inl rfl | exact Or.inr ⟨_, rfl, rfl⟩) ?_
  have L4 : ∀ (n4 : Nat) (i a : Int), (σ (TB 0) 1 - i).toNat < n4 → (0 ≤ i ∧ i ≤ σ (TB 0) 1) → (0 ≤ a ∧ a ≤ 80000 * i) → (a = sL σ i) → WG E ad 3 σ 4 [some (.ref (ad 6)), some (.int (iI a)), some (.int (iI i))] [] := by
    intro n4
    induction n4 with
    | zero => intro i a hn; exact absurd hn (Nat.not_lt_zero _)
    | succ n4 ih4 =>
      intro i a hn4 hi ha hs
      refine g_rg (fun hRL4 => ?_)
      refine g_iload2 X dX2_sumOfLeast_4 ?_
      refine g_aload0 X dX2_sumOfLeast_5 ?_
      refine gf_2_table X i2 (by decide +kernel) dX2_sumOfLeast_6 ?_
      refine gf_4_tasks X (by omega) i4 (by decide +kernel) dX2_sumOfLeast_9 ?_
      refine g_icmp_ge (tgt := 30) X (by first | exact hRL4 _ _ | exact hR0 _ _ | assumption | (unfold InR; omega)) (by first | exact hRL4 _ _ | exact hR0 _ _ | assumption | (unfold InR; omega)) dX2_sumOfLeast_12 (by decide) (fun h12 => ?_) (fun h12 => ?_)
      · skip
        refine g_iload1 X dX2_sumOfLeast_30 ?_
        exact g_iretF X hr (by first | exact hRL4 _ _ | exact hR0 _ _ | assumption | (unfold InR; omega)) ⟨by rw [hs]; congr 1; omega, rfl⟩ dX2_sumOfLeast_31
      · skip
        have hpl := hPL i hi.1 (by omega)
        refine g_iload1 X dX2_sumOfLeast_15 ?_
        refine g_aload0 X dX2_sumOfLeast_16 ?_
        refine gf_2_least X i2 (by decide +kernel) dX2_sumOfLeast_17 ?_
        refine g_iload2 X dX2_sumOfLeast_20 ?_
        refine g_iald X (ia_7 (by omega)) dX2_sumOfLeast_21 ?_
        refine g_iadd X dX2_sumOfLeast_22 ?_
        refine g_istore1 X dX2_sumOfLeast_23 (by decide) (by first | exact Or.inl rfl | exact Or.inr ⟨_, rfl, rfl⟩) ?_
        refine g_iinc2 X dX2_sumOfLeast_24 (by decide) (by first | exact Or.inl rfl | exact Or.inr ⟨_, rfl, rfl⟩) ?_
        refine g_goto (tgt := 4) X dX2_sumOfLeast_27 (by decide) ?_
        refine ih4 _ _ (by omega) ?_ ?_ ?_
        · omega
        · omega
        · rw [hs, sL_s hi.1]
  refine L4 _ _ _ (Nat.lt_succ_self _) ?_ ?_ ?_
  · omega
  · omega
  · rfl

set_option maxHeartbeats 4000000 in
set_option maxRecDepth 100000 in
theorem k_X2_sumOfGreatest (E0 : EV) {ad : Int → Nat} {σ : St} (hT0 : TOK σ 0) : MGE E0 yX2_sumOfGreatest wsX2_sumOfGreatest 5 115 ad σ [.ref (ad 6)] (PI (fun z σ' => z = sG σ (σ (TB 0) 1) ∧ FR σ σ')) := by
  refine MGE.of (cc := cX2_sumOfGreatest) (maxL := 3) (ret := (some .int)) (own := RX2) [some (.ref (ad 6)), none, none] (by decide +kernel) rfl rfl (Nat.le_of_ble_eq_true rfl) rfl rfl (fun E X hr => ?_)
  have i2 : ∀ w ∈ wsX20, w ∈ wsX2_sumOfGreatest := by decide +kernel
  have i4 : ∀ w ∈ wsX40, w ∈ wsX2_sumOfGreatest := by decide +kernel
  refine g_rg (fun hR0 => ?_)
  have hm := hT0.1
  have hn := hT0.2.1
  refine g_iconst X dX2_sumOfGreatest_0 ?_
  refine g_istore1 X dX2_sumOfGreatest_1 (by decide) (by first | exact Or.inl rfl | exact Or.inr ⟨_, rfl, rfl⟩) ?_
  refine g_iconst X dX2_sumOfGreatest_2 ?_
  refine g_istore2 X dX2_sumOfGreatest_3 (by decide) (by first | exact Or.inl rfl | exact Or.inr ⟨_, rfl, rfl⟩) ?_
  have L4 : ∀ (n4 : Nat) (i a : Int) (σ1 : St), (σ (TB 0) 1 - i).toNat < n4 → (0 ≤ i ∧ i ≤ σ (TB 0) 1) → (-70000 * i ≤ a ∧ a ≤ 70000 * i) → (a = sG σ i) → (FR σ σ1) → WG E ad 3 σ1 4 [some (.ref (ad 6)), some (.int (iI a)), some (.int (iI i))] [] := by
    intro n4
    induction n4 with
    | zero => intro i a σ1 hn; exact absurd hn (Nat.not_lt_zero _)
    | succ n4 ih4 =>
      intro i a σ1 hn4 hi ha hs hF
      refine g_rg (fun hRL4 => ?_)
      have e1 : σ1 (TB 0) 1 = σ (TB 0) 1 := hF _ _ (by unfold TB; omega)
      refine g_iload2 X dX2_sumOfGreatest_4 ?_
      refine g_aload0 X dX2_sumOfGreatest_5 ?_
      refine gf_2_table X i2 (by decide +kernel) dX2_sumOfGreatest_6 ?_
      refine gf_4_tasks X (by omega) i4 (by decide +kernel) dX2_sumOfGreatest_9 ?_
      refine g_icmp_ge (tgt := 29) X (by first | exact hRL4 _ _ | exact hR0 _ _ | assumption | (unfold InR; omega)) (by first | exact hRL4 _ _ | exact hR0 _ _ | assumption | (unfold InR; omega)) dX2_sumOfGreatest_12 (by decide) (fun h12 => ?_) (fun h12 => ?_)
      · skip
        refine g_iload1 X dX2_sumOfGreatest_29 ?_
        exact g_iret X hr (by first | exact hRL4 _ _ | exact hR0 _ _ | assumption | (unfold InR; omega)) ⟨by rw [hs]; congr 1; omega, hF⟩ dX2_sumOfGreatest_30
      · skip
        have hpp := p2_k (k := i) (by omega)
        have hb1 := RW_b hT0 (AW σ) 0 (p2 i) (by omega)
        have hb2 := RW_b hT0 (AW σ) 0 0 (by omega)
        have eg : grP σ1 i = grP σ i := by
          unfold grP
          rw [AW_FR hF, RW_FR hT0 hF _ _ _ (by omega), RW_FR hT0 hF _ _ _ (by omega)]
        have egb : -70000 ≤ grP σ i ∧ grP σ i ≤ 70000 := by
          unfold grP
          omega
        refine g_iload1 X dX2_sumOfGreatest_15 ?_
        refine g_aload0 X dX2_sumOfGreatest_16 ?_
        refine g_iload2 X dX2_sumOfGreatest_17 ?_
        refine g_I1 X (k_X2_greatestOf E (hT0.of hF) (by omega)) gX2_sumOfGreatest_X2_greatestOf rfl (by decide +kernel) (by decide) ob_6 (Nat.le_of_ble_eq_true rfl) dX2_sumOfGreatest_18 (fun z18 σ18 hz18 hp18 => ?_)
        refine g_rg (fun hR18 => ?_)
        refine g_iadd X dX2_sumOfGreatest_21 ?_
        refine g_istore1 X dX2_sumOfGreatest_22 (by decide) (by first | exact Or.inl rfl | exact Or.inr ⟨_, rfl, rfl⟩) ?_
        refine g_iinc2 X dX2_sumOfGreatest_23 (by decide) (by first | exact Or.inl rfl | exact Or.inr ⟨_, rfl, rfl⟩) ?_
        refine g_goto (tgt := 4) X dX2_sumOfGreatest_26 (by decide) ?_
        refine ih4 _ _ _ (by omega) ?_ ?_ ?_ ?_
        · omega
        · rw [hp18.1, eg]
          omega
        · rw [hs, sG_s hi.1, hp18.1, eg]
        · exact fun q k hq => (hp18.2 q k hq).trans (hF q k hq)
  refine L4 _ _ _ _ (Nat.lt_succ_self _) ?_ ?_ ?_ ?_
  · omega
  · omega
  · rfl
  · exact fun q k _ => rfl

set_option maxHeartbeats 4000000 in
set_option maxRecDepth 100000 in
theorem k_X2_worthOf (E0 : EV) {ad : Int → Nat} {σ : St} {w : Int} (hT0 : TOK σ 0) (hPL : PL σ) (hw : 0 ≤ w ∧ w < 7) : MGE E0 yX2_worthOf wsX2_worthOf 1 22 ad σ [.ref (ad 6), .int (iI w)] (PF (wOr σ w) σ) := by
  refine MGE.of (cc := cX2_worthOf) (maxL := 4) (ret := (some .int)) (own := RX2) [some (.ref (ad 6)), some (.int (iI w)), none, none] (by decide +kernel) rfl rfl (Nat.le_of_ble_eq_true rfl) rfl rfl (fun E X hr => ?_)
  have i2 : ∀ w ∈ wsX20, w ∈ wsX2_worthOf := by decide +kernel
  have i4 : ∀ w ∈ wsX40, w ∈ wsX2_worthOf := by decide +kernel
  refine g_rg (fun hR0 => ?_)
  have hm := hT0.1
  have hn := hT0.2.1
  have hd := hT0.2.2.1 w hw.1 hw.2
  refine g_aload0 X dX2_worthOf_0 ?_
  refine gf_2_table X i2 (by decide +kernel) dX2_worthOf_1 ?_
  refine gf_4_idleCosts X (by omega) i4 (by decide +kernel) dX2_worthOf_4 ?_
  refine g_iload1 X dX2_worthOf_7 ?_
  refine g_iald X (ia_TI (by omega) (by omega)) dX2_worthOf_8 ?_
  refine g_istore2 X dX2_worthOf_9 (by decide) (by first | exact Or.inl rfl | exact Or.inr ⟨_, rfl, rfl⟩) ?_
  refine g_iconst X dX2_worthOf_10 ?_
  refine g_istore3 X dX2_worthOf_11 (by decide) (by first | exact Or.inl rfl | exact Or.inr ⟨_, rfl, rfl⟩) ?_
  have L12 : ∀ (n12 : Nat) (i a : Int), (σ (TB 0) 1 - i).toNat < n12 → (0 ≤ i ∧ i ≤ σ (TB 0) 1) → (-1 ≤ a ∧ a ≤ 9999) → (a = wO σ w i) → WG E ad 4 σ 12 [some (.ref (ad 6)), some (.int (iI w)), some (.int (iI a)), some (.int (iI i))] [] := by
    intro n12
    induction n12 with
    | zero => intro i a hn; exact absurd hn (Nat.not_lt_zero _)
    | succ n12 ih12 =>
      intro i a hn12 hi ha hs
      refine g_rg (fun hRL12 => ?_)
      refine g_iload3 X dX2_worthOf_12 ?_
      refine g_aload0 X dX2_worthOf_13 ?_
      refine gf_2_table X i2 (by decide +kernel) dX2_worthOf_14 ?_
      refine gf_4_tasks X (by omega) i4 (by decide +kernel) dX2_worthOf_17 ?_
      refine g_icmp_ge (tgt := 64) X (by first | exact hRL12 _ _ | exact hR0 _ _ | assumption | (unfold InR; omega)) (by first | exact hRL12 _ _ | exact hR0 _ _ | assumption | (unfold InR; omega)) dX2_worthOf_20 (by decide) (fun h20 => ?_) (fun h20 => ?_)
      · skip
        refine g_iload2 X dX2_worthOf_64 ?_
        exact g_iretF X hr (by first | exact hRL12 _ _ | exact hR0 _ _ | assumption | (unfold InR; omega)) ⟨by rw [hs]; unfold wOr; congr 1; omega, rfl⟩ dX2_worthOf_65
      · skip
        have hpl := hPL i hi.1 (by omega)
        have hc := hT0.2.2.2 w i hw.1 hw.2 hi.1 (by omega)
        have hb1 := isB_01 σ 0 w i
        refine g_aload0 X dX2_worthOf_23 ?_
        refine gf_2_table X i2 (by decide +kernel) dX2_worthOf_24 ?_
        refine g_iload1 X dX2_worthOf_27 ?_
        refine g_iload3 X dX2_worthOf_28 ?_
        refine g_F2 X (k_X4_isBarred E (by omega) (by omega) (by omega)) gX2_worthOf_X4_isBarred rfl (by decide +kernel) (by decide) (ob_TB (by omega)) (Nat.le_of_ble_eq_true rfl) dX2_worthOf_29 (fun hz29 => ?_)
        refine g_rg (fun hR29 => ?_)
        refine g_if_ne (tgt := 58) X (by first | exact hR29 _ _ | exact hRL12 _ _ | exact hR0 _ _ | assumption | (unfold InR; omega)) dX2_worthOf_32 (by decide) (fun h32 => ?_) (fun h32 => ?_)
        · skip
          refine g_iinc3 X dX2_worthOf_58 (by decide) (by first | exact Or.inl rfl | exact Or.inr ⟨_, rfl, rfl⟩) ?_
          refine g_goto (tgt := 12) X dX2_worthOf_61 (by decide) ?_
          refine ih12 _ _ (by omega) ?_ ?_ ?_
          · omega
          · omega
          · rw [hs, wO_s hi.1]
            first | (rw [if_pos (by omega)]; done) | (rw [if_neg (by omega)]; done)
        · skip
          refine g_iload2 X dX2_worthOf_35 ?_
          refine g_aload0 X dX2_worthOf_36 ?_
          refine gf_2_table X i2 (by decide +kernel) dX2_worthOf_37 ?_
          refine gf_4_costs X (by omega) i4 (by decide +kernel) dX2_worthOf_40 ?_
          refine g_iload1 X dX2_worthOf_43 ?_
          refine g_aald_TC X (by omega) (by omega) dX2_worthOf_44 ?_
          refine g_iload3 X dX2_worthOf_45 ?_
          refine g_iald X (ia_TR (by omega) (by omega) (by omega)) dX2_worthOf_46 ?_
          refine g_aload0 X dX2_worthOf_47 ?_
          refine gf_2_least X i2 (by decide +kernel) dX2_worthOf_48 ?_
          refine g_iload3 X dX2_worthOf_51 ?_
          refine g_iald X (ia_7 (by omega)) dX2_worthOf_52 ?_
          refine g_iadd X dX2_worthOf_53 ?_
          refine g_min X (by first | exact hR29 _ _ | exact hRL12 _ _ | exact hR0 _ _ | assumption | (unfold InR; omega)) (by first | exact hR29 _ _ | exact hRL12 _ _ | exact hR0 _ _ | assumption | (unfold InR; omega)) (by decide +kernel) (by decide +kernel) (by decide +kernel) (by decide +kernel) (by decide) (Nat.le_of_ble_eq_true rfl) dX2_worthOf_54 ?_
          refine g_istore2 X dX2_worthOf_57 (by decide) (by first | exact Or.inl rfl | exact Or.inr ⟨_, rfl, rfl⟩) ?_
          refine g_iinc3 X dX2_worthOf_58 (by decide) (by first | exact Or.inl rfl | exact Or.inr ⟨_, rfl, rfl⟩) ?_
          refine g_goto (tgt := 12) X dX2_worthOf_61 (by decide) ?_
          refine ih12 _ _ (by omega) ?_ ?_ ?_
          · omega
          · omega
          · rw [hs, wO_s hi.1]
            first | (rw [if_pos (by omega)]; done) | (rw [if_neg (by omega)]; done)
  refine L12 _ _ _ (Nat.lt_succ_self _) ?_ ?_ ?_
  · omega
  · omega
  · rfl

set_option maxHeartbeats 4000000 in
set_option maxRecDepth 100000 in
theorem k_X2_sumOfWorths (E0 : EV) {ad : Int → Nat} {σ : St} (hT0 : TOK σ 0) (hPL : PL σ) : MGE E0 yX2_sumOfWorths wsX2_sumOfWorths 2 45 ad σ [.ref (ad 6)] (PF (sW σ (σ (TB 0) 0)) σ) := by
  refine MGE.of (cc := cX2_sumOfWorths) (maxL := 3) (ret := (some .int)) (own := RX2) [some (.ref (ad 6)), none, none] (by decide +kernel) rfl rfl (Nat.le_of_ble_eq_true rfl) rfl rfl (fun E X hr => ?_)
  have i2 : ∀ w ∈ wsX20, w ∈ wsX2_sumOfWorths := by decide +kernel
  have i4 : ∀ w ∈ wsX40, w ∈ wsX2_sumOfWorths := by decide +kernel
  refine g_rg (fun hR0 => ?_)
  have hm := hT0.1
  have hn := hT0.2.1
  refine g_iconst X dX2_sumOfWorths_0 ?_
  refine g_istore1 X dX2_sumOfWorths_1 (by decide) (by first | exact Or.inl rfl | exact Or.inr ⟨_, rfl, rfl⟩) ?_
  refine g_iconst X dX2_sumOfWorths_2 ?_
  refine g_istore2 X dX2_sumOfWorths_3 (by decide) (by first | exact Or.inl rfl | exact Or.inr ⟨_, rfl, rfl⟩) ?_
  have L4 : ∀ (n4 : Nat) (i a : Int), (σ (TB 0) 0 - i).toNat < n4 → (0 ≤ i ∧ i ≤ σ (TB 0) 0) → (-i ≤ a ∧ a ≤ 9999 * i) → (a = sW σ i) → WG E ad 3 σ 4 [some (.ref (ad 6)), some (.int (iI a)), some (.int (iI i))] [] := by
    intro n4
    induction n4 with
    | zero => intro i a hn; exact absurd hn (Nat.not_lt_zero _)
    | succ n4 ih4 =>
      intro i a hn4 hi ha hs
      refine g_rg (fun hRL4 => ?_)
      refine g_iload2 X dX2_sumOfWorths_4 ?_
      refine g_aload0 X dX2_sumOfWorths_5 ?_
      refine gf_2_table X i2 (by decide +kernel) dX2_sumOfWorths_6 ?_
      refine gf_4_workers X (by omega) i4 (by decide +kernel) dX2_sumOfWorths_9 ?_
      refine g_icmp_ge (tgt := 29) X (by first | exact hRL4 _ _ | exact hR0 _ _ | assumption | (unfold InR; omega)) (by first | exact hRL4 _ _ | exact hR0 _ _ | assumption | (unfold InR; omega)) dX2_sumOfWorths_12 (by decide) (fun h12 => ?_) (fun h12 => ?_)
      · skip
        refine g_iload1 X dX2_sumOfWorths_29 ?_
        exact g_iretF X hr (by first | exact hRL4 _ _ | exact hR0 _ _ | assumption | (unfold InR; omega)) ⟨by rw [hs]; congr 1; omega, rfl⟩ dX2_sumOfWorths_30
      · skip
        have hwb := wOr_b hT0 hPL (w := i) (by omega)
        refine g_iload1 X dX2_sumOfWorths_15 ?_
        refine g_aload0 X dX2_sumOfWorths_16 ?_
        refine g_iload2 X dX2_sumOfWorths_17 ?_
        refine g_F1 X (k_X2_worthOf E hT0 hPL (by omega)) gX2_sumOfWorths_X2_worthOf rfl (by decide +kernel) (by decide) ob_6 (Nat.le_of_ble_eq_true rfl) dX2_sumOfWorths_18 (fun hz18 => ?_)
        refine g_rg (fun hR18 => ?_)
        refine g_iadd X dX2_sumOfWorths_21 ?_
        refine g_istore1 X dX2_sumOfWorths_22 (by decide) (by first | exact Or.inl rfl | exact Or.inr ⟨_, rfl, rfl⟩) ?_
        refine g_iinc2 X dX2_sumOfWorths_23 (by decide) (by first | exact Or.inl rfl | exact Or.inr ⟨_, rfl, rfl⟩) ?_
        refine g_goto (tgt := 4) X dX2_sumOfWorths_26 (by decide) ?_
        refine ih4 _ _ (by omega) ?_ ?_ ?_
        · omega
        · omega
        · rw [hs, sW_s hi.1]
  refine L4 _ _ _ (Nat.lt_succ_self _) ?_ ?_ ?_
  · omega
  · omega
  · rfl

set_option maxHeartbeats 4000000 in
set_option maxRecDepth 100000 in
theorem k_X2_tightTasksOf (E0 : EV) {ad : Int → Nat} {σ : St} {w : Int} (hT0 : TOK σ 0) (hPL : PL σ) (hw : 0 ≤ w ∧ w < 7) : MGE E0 yX2_tightTasksOf wsX2_tightTasksOf 2 45 ad σ [.ref (ad 6), .int (iI w)] (PF (tgT σ w) σ) := by
  refine MGE.of (cc := cX2_tightTasksOf) (maxL := 5) (ret := (some .int)) (own := RX2) [some (.ref (ad 6)), some (.int (iI w)), none, none, none] (by decide +kernel) rfl rfl (Nat.le_of_ble_eq_true rfl) rfl rfl (fun E X hr => ?_)
  have i2 : ∀ w ∈ wsX20, w ∈ wsX2_tightTasksOf := by decide +kernel
  have i4 : ∀ w ∈ wsX40, w ∈ wsX2_tightTasksOf := by decide +kernel
  refine g_rg (fun hR0 => ?_)
  have hm := hT0.1
  have hn := hT0.2.1
  refine g_aload0 X dX2_tightTasksOf_0 ?_
  refine g_iload1 X dX2_tightTasksOf_1 ?_
  refine g_F1 X (k_X2_worthOf E hT0 hPL (by omega)) gX2_tightTasksOf_X2_worthOf rfl (by decide +kernel) (by decide) ob_6 (Nat.le_of_ble_eq_true rfl) dX2_tightTasksOf_2 (fun hz2 => ?_)
  refine g_rg (fun hR2 => ?_)
  refine g_istore2 X dX2_tightTasksOf_5 (by decide) (by first | exact Or.inl rfl | exact Or.inr ⟨_, rfl, rfl⟩) ?_
  refine g_iconst X dX2_tightTasksOf_6 ?_
  refine g_istore3 X dX2_tightTasksOf_7 (by decide) (by first | exact Or.inl rfl | exact Or.inr ⟨_, rfl, rfl⟩) ?_
  refine g_iconst X dX2_tightTasksOf_8 ?_
  refine g_istore4 X dX2_tightTasksOf_9 (by decide) (by first | exact Or.inl rfl | exact Or.inr ⟨_, rfl, rfl⟩) ?_
  have L11 : ∀ (n11 : Nat) (i a : Int), (σ (TB 0) 1 - i).toNat < n11 → (0 ≤ i ∧ i ≤ σ (TB 0) 1) → (0 ≤ a ∧ a < 128) → (a = tgS σ w i) → WG E ad 5 σ 11 [some (.ref (ad 6)), some (.int (iI w)), some (.int (iI (wOr σ w))), some (.int (iI a)), some (.int (iI i))] [] := by
    intro n11
    induction n11 with
    | zero => intro i a hn; exact absurd hn (Nat.not_lt_zero _)
    | succ n11 ih11 =>
      intro i a hn11 hi ha hs
      refine g_rg (fun hRL11 => ?_)
      refine g_iload4 X dX2_tightTasksOf_11 ?_
      refine g_aload0 X dX2_tightTasksOf_13 ?_
      refine gf_2_table X i2 (by decide +kernel) dX2_tightTasksOf_14 ?_
      refine gf_4_tasks X (by omega) i4 (by decide +kernel) dX2_tightTasksOf_17 ?_
      refine g_icmp_ge (tgt := 73) X (by first | exact hRL11 _ _ | exact hR2 _ _ | exact hR0 _ _ | assumption | (unfold InR; omega)) (by first | exact hRL11 _ _ | exact hR2 _ _ | exact hR0 _ _ | assumption | (unfold InR; omega)) dX2_tightTasksOf_20 (by decide) (fun h20 => ?_) (fun h20 => ?_)
      · skip
        refine g_iload3 X dX2_tightTasksOf_73 ?_
        exact g_iretF X hr (by first | exact hRL11 _ _ | exact hR2 _ _ | exact hR0 _ _ | assumption | (unfold InR; omega)) ⟨by rw [hs]; unfold tgT; congr 1; omega, rfl⟩ dX2_tightTasksOf_74
      · skip
        have hpl := hPL i hi.1 (by omega)
        have hc := hT0.2.2.2 w i hw.1 hw.2 hi.1 (by omega)
        have hb1 := isB_01 σ 0 w i
        have hsb := sb_lt (n := 7) (m := a) (k := i) (by have h3 : p2 7 = 128 := rfl; omega) (by omega) (by omega)
        have hsb : 0 ≤ sb a i ∧ sb a i < 128 := hsb
        have hwb := wOr_b hT0 hPL hw
        refine g_aload0 X dX2_tightTasksOf_23 ?_
        refine gf_2_table X i2 (by decide +kernel) dX2_tightTasksOf_24 ?_
        refine g_iload1 X dX2_tightTasksOf_27 ?_
        refine g_iload4 X dX2_tightTasksOf_28 ?_
        refine g_F2 X (k_X4_isBarred E (by omega) (by omega) (by omega)) gX2_tightTasksOf_X4_isBarred rfl (by decide +kernel) (by decide) (ob_TB (by omega)) (Nat.le_of_ble_eq_true rfl) dX2_tightTasksOf_30 (fun hz30 => ?_)
        refine g_rg (fun hR30 => ?_)
        refine g_if_ne (tgt := 67) X (by first | exact hR30 _ _ | exact hRL11 _ _ | exact hR2 _ _ | exact hR0 _ _ | assumption | (unfold InR; omega)) dX2_tightTasksOf_33 (by decide) (fun h33 => ?_) (fun h33 => ?_)
        · skip
          refine g_iinc4 X dX2_tightTasksOf_67 (by decide) (by first | exact Or.inl rfl | exact Or.inr ⟨_, rfl, rfl⟩) ?_
          refine g_goto (tgt := 11) X dX2_tightTasksOf_70 (by decide) ?_
          refine ih11 _ _ (by omega) ?_ ?_ ?_
          · omega
          · first | exact ha | exact hsb
          · rw [tgS_s hi.1, ← hs]
            first | (rw [if_pos (by omega)]; done) | (rw [if_neg (by omega)]; done)
        · skip
          refine g_aload0 X dX2_tightTasksOf_36 ?_
          refine gf_2_table X i2 (by decide +kernel) dX2_tightTasksOf_37 ?_
          refine gf_4_costs X (by omega) i4 (by decide +kernel) dX2_tightTasksOf_40 ?_
          refine g_iload1 X dX2_tightTasksOf_43 ?_
          refine g_aald_TC X (by omega) (by omega) dX2_tightTasksOf_44 ?_
          refine g_iload4 X dX2_tightTasksOf_45 ?_
          refine g_iald X (ia_TR (by omega) (by omega) (by omega)) dX2_tightTasksOf_47 ?_
          refine g_aload0 X dX2_tightTasksOf_48 ?_
          refine gf_2_least X i2 (by decide +kernel) dX2_tightTasksOf_49 ?_
          refine g_iload4 X dX2_tightTasksOf_52 ?_
          refine g_iald X (ia_7 (by omega)) dX2_tightTasksOf_54 ?_
          refine g_iadd X dX2_tightTasksOf_55 ?_
          refine g_iload2 X dX2_tightTasksOf_56 ?_
          refine g_icmp_ne (tgt := 67) X (by first | exact hR30 _ _ | exact hRL11 _ _ | exact hR2 _ _ | exact hR0 _ _ | assumption | (unfold InR; omega)) (by first | exact hR30 _ _ | exact hRL11 _ _ | exact hR2 _ _ | exact hR0 _ _ | assumption | (unfold InR; omega)) dX2_tightTasksOf_57 (by decide) (fun h57 => ?_) (fun h57 => ?_)
          · skip
            refine g_iinc4 X dX2_tightTasksOf_67 (by decide) (by first | exact Or.inl rfl | exact Or.inr ⟨_, rfl, rfl⟩) ?_
            refine g_goto (tgt := 11) X dX2_tightTasksOf_70 (by decide) ?_
            refine ih11 _ _ (by omega) ?_ ?_ ?_
            · omega
            · first | exact ha | exact hsb
            · rw [tgS_s hi.1, ← hs]
              first | (rw [if_pos (by omega)]; done) | (rw [if_neg (by omega)]; done)
          · skip
            refine g_iload3 X dX2_tightTasksOf_60 ?_
            refine g_iconst X dX2_tightTasksOf_61 ?_
            refine g_iload4 X dX2_tightTasksOf_62 ?_
            refine g_ishl X (b_shl (by omega)) dX2_tightTasksOf_64 ?_
            refine g_ior X (b_or (by omega) (by omega)) dX2_tightTasksOf_65 ?_
            refine g_istore3 X dX2_tightTasksOf_66 (by decide) (by first | exact Or.inl rfl | exact Or.inr ⟨_, rfl, rfl⟩) ?_
            refine g_iinc4 X dX2_tightTasksOf_67 (by decide) (by first | exact Or.inl rfl | exact Or.inr ⟨_, rfl, rfl⟩) ?_
            refine g_goto (tgt := 11) X dX2_tightTasksOf_70 (by decide) ?_
            refine ih11 _ _ (by omega) ?_ ?_ ?_
            · omega
            · first | exact ha | exact hsb
            · rw [tgS_s hi.1, ← hs]
              first | (rw [if_pos (by omega)]; done) | (rw [if_neg (by omega)]; done)
  refine L11 _ _ _ (Nat.lt_succ_self _) ?_ ?_ ?_
  · omega
  · omega
  · rfl

set_option maxHeartbeats 4000000 in
set_option maxRecDepth 100000 in
theorem k_X2_tightPairs (E0 : EV) {ad : Int → Nat} {σ : St} (hT0 : TOK σ 0) (hPL : PL σ) : MGE E0 yX2_tightPairs wsX2_tightPairs 3 69 ad σ [.ref (ad 6)] (PF (tP σ (σ (TB 0) 0)) σ) := by
  refine MGE.of (cc := cX2_tightPairs) (maxL := 3) (ret := (some .int)) (own := RX2) [some (.ref (ad 6)), none, none] (by decide +kernel) rfl rfl (Nat.le_of_ble_eq_true rfl) rfl rfl (fun E X hr => ?_)
  have i2 : ∀ w ∈ wsX20, w ∈ wsX2_tightPairs := by decide +kernel
  have i4 : ∀ w ∈ wsX40, w ∈ wsX2_tightPairs := by decide +kernel
  refine g_rg (fun hR0 => ?_)
  have hm := hT0.1
  have hn := hT0.2.1
  refine g_iconst X dX2_tightPairs_0 ?_
  refine g_istore1 X dX2_tightPairs_1 (by decide) (by first | exact Or.inl rfl | exact Or.inr ⟨_, rfl, rfl⟩) ?_
  refine g_iconst X dX2_tightPairs_2 ?_
  refine g_istore2 X dX2_tightPairs_3 (by decide) (by first | exact Or.inl rfl | exact Or.inr ⟨_, rfl, rfl⟩) ?_
  have L4 : ∀ (n4 : Nat) (i a : Int), (σ (TB 0) 0 - i).toNat < n4 → (0 ≤ i ∧ i ≤ σ (TB 0) 0) → (0 ≤ a ∧ a ≤ 7 * i) → (a = tP σ i) → WG E ad 3 σ 4 [some (.ref (ad 6)), some (.int (iI a)), some (.int (iI i))] [] := by
    intro n4
    induction n4 with
    | zero => intro i a hn; exact absurd hn (Nat.not_lt_zero _)
    | succ n4 ih4 =>
      intro i a hn4 hi ha hs
      refine g_rg (fun hRL4 => ?_)
      refine g_iload2 X dX2_tightPairs_4 ?_
      refine g_aload0 X dX2_tightPairs_5 ?_
      refine gf_2_table X i2 (by decide +kernel) dX2_tightPairs_6 ?_
      refine gf_4_workers X (by omega) i4 (by decide +kernel) dX2_tightPairs_9 ?_
      refine g_icmp_ge (tgt := 32) X (by first | exact hRL4 _ _ | exact hR0 _ _ | assumption | (unfold InR; omega)) (by first | exact hRL4 _ _ | exact hR0 _ _ | assumption | (unfold InR; omega)) dX2_tightPairs_12 (by decide) (fun h12 => ?_) (fun h12 => ?_)
      · skip
        refine g_iload1 X dX2_tightPairs_32 ?_
        exact g_iretF X hr (by first | exact hRL4 _ _ | exact hR0 _ _ | assumption | (unfold InR; omega)) ⟨by rw [hs]; congr 1; omega, rfl⟩ dX2_tightPairs_33
      · skip
        have htb := tgT_b hT0 i
        have hbb := bcN_b (tgT σ i)
        refine g_iload1 X dX2_tightPairs_15 ?_
        refine g_aload0 X dX2_tightPairs_16 ?_
        refine g_iload2 X dX2_tightPairs_17 ?_
        refine g_F1 X (k_X2_tightTasksOf E hT0 hPL (by omega)) gX2_tightPairs_X2_tightTasksOf rfl (by decide +kernel) (by decide) ob_6 (Nat.le_of_ble_eq_true rfl) dX2_tightPairs_18 (fun hz18 => ?_)
        refine g_rg (fun hR18 => ?_)
        refine g_SX1 X (k_bitCount E (by omega)) gX2_tightPairs_J6_bitCount_0f7a4 rfl (by decide +kernel) (by decide) (Nat.le_of_ble_eq_true rfl) dX2_tightPairs_21 (fun hz21 => ?_)
        refine g_rg (fun hR21 => ?_)
        refine g_iadd X dX2_tightPairs_24 ?_
        refine g_istore1 X dX2_tightPairs_25 (by decide) (by first | exact Or.inl rfl | exact Or.inr ⟨_, rfl, rfl⟩) ?_
        refine g_iinc2 X dX2_tightPairs_26 (by decide) (by first | exact Or.inl rfl | exact Or.inr ⟨_, rfl, rfl⟩) ?_
        refine g_goto (tgt := 4) X dX2_tightPairs_29 (by decide) ?_
        refine ih4 _ _ (by omega) ?_ ?_ ?_
        · omega
        · omega
        · rw [hs, tP_s hi.1]
  refine L4 _ _ _ (Nat.lt_succ_self _) ?_ ?_ ?_
  · omega
  · omega
  · rfl

set_option maxHeartbeats 4000000 in
set_option maxRecDepth 100000 in
theorem k_X2_findLeast (E0 : EV) {ad : Int → Nat} {σ : St} (hT0 : TOK σ 0) : MGE E0 yX2_findLeast wsX2_findLeast 5 114 ad σ [.ref (ad 6)] (PV (fun σ' => PLs σ σ')) := by
  refine MGE.of (cc := cX2_findLeast) (maxL := 5) (ret := none) (own := RX2) [some (.ref (ad 6)), none, none, none, none] (by decide +kernel) rfl rfl (Nat.le_of_ble_eq_true rfl) rfl rfl (fun E X hr => ?_)
  have i2 : ∀ w ∈ wsX20, w ∈ wsX2_findLeast := by decide +kernel
  have i4 : ∀ w ∈ wsX40, w ∈ wsX2_findLeast := by decide +kernel
  refine g_rg (fun hR0 => ?_)
  have hm := hT0.1
  have hn := hT0.2.1
  refine g_iconst X dX2_findLeast_0 ?_
  refine g_istore1 X dX2_findLeast_1 (by decide) (by first | exact Or.inl rfl | exact Or.inr ⟨_, rfl, rfl⟩) ?_
  have L2 : ∀ (n2 : Nat) (i : Int) (σ1 : St) (u2 u3 u4 : Option Value), (σ (TB 0) 1 - i).toNat < n2 → (0 ≤ i ∧ i ≤ σ (TB 0) 1) → (∀ q k, q ≠ 7 → σ1 q k = σ q k) → (∀ j, 0 ≤ j → j < i → σ1 7 j = 0) → WG E ad 5 σ1 2 [some (.ref (ad 6)), some (.int (iI i)), u2, u3, u4] [] := by
    intro n2
    induction n2 with
    | zero => intro i σ1 u2 u3 u4 hn; exact absurd hn (Nat.not_lt_zero _)
    | succ n2 ih2 =>
      intro i σ1 u2 u3 u4 hn2 hi hf hz
      refine g_rg (fun hRL2 => ?_)
      have e1 : σ1 (TB 0) 1 = σ (TB 0) 1 := hf _ _ (by unfold TB; omega)
      have hFa : FR7 σ σ1 := fun q k h7 _ => hf q k h7
      refine g_iload1 X dX2_findLeast_2 ?_
      refine g_aload0 X dX2_findLeast_3 ?_
      refine gf_2_table X i2 (by decide +kernel) dX2_findLeast_4 ?_
      refine gf_4_tasks X (by omega) i4 (by decide +kernel) dX2_findLeast_7 ?_
      refine g_icmp_ge (tgt := 26) X (by first | exact hRL2 _ _ | exact hR0 _ _ | assumption | (unfold InR; omega)) (by first | exact hRL2 _ _ | exact hR0 _ _ | assumption | (unfold InR; omega)) dX2_findLeast_10 (by decide) (fun h10 => ?_) (fun h10 => ?_)
      · skip
        refine g_aload0 X dX2_findLeast_26 ?_
        refine gf_2_plans X i2 (by decide +kernel) dX2_findLeast_27 ?_
        refine g_I0 X (k_X1_leastTotal E (hFa.tok hT0)) gX2_findLeast_X1_leastTotal rfl (by decide +kernel) (by decide) ob_3 (Nat.le_of_ble_eq_true rfl) dX2_findLeast_30 (fun z30 σ30 hz30 hp30 => ?_)
        refine g_rg (fun hR30 => ?_)
        have ez : z30 = RW σ (AW σ) 0 0 := by rw [hp30.1, AW_FR7 hFa, RW_FR7 hT0 hFa _ _ _ (by omega)]
        have hzb := RW_b hT0 (AW σ) 0 0 (by omega)
        rw [ez]
        refine g_istore1 X dX2_findLeast_33 (by decide) (by first | exact Or.inl rfl | exact Or.inr ⟨_, rfl, rfl⟩) ?_
        refine g_iconst X dX2_findLeast_34 ?_
        refine g_istore2 X dX2_findLeast_35 (by decide) (by first | exact Or.inl rfl | exact Or.inr ⟨_, rfl, rfl⟩) ?_
        have L36 : ∀ (n36 : Nat) (w : Int) (σ2 : St) (u3 u4 : Option Value), (σ (TB 0) 0 - w).toNat < n36 → (0 ≤ w ∧ w ≤ σ (TB 0) 0) → (FR7 σ σ2) → (∀ j, 0 ≤ j → j < σ (TB 0) 1 → σ2 7 j = lpS σ j w) → WG E ad 5 σ2 36 [some (.ref (ad 6)), some (.int (iI (RW σ (AW σ) 0 0))), some (.int (iI w)), u3, u4] [] := by
          intro n36
          induction n36 with
          | zero => intro w σ2 u3 u4 hn; exact absurd hn (Nat.not_lt_zero _)
          | succ n36 ih36 =>
            intro w σ2 u3 u4 hn36 hw hF hl
            refine g_rg (fun hRL36 => ?_)
            have f0 : σ2 (TB 0) 0 = σ (TB 0) 0 := hF _ _ (by unfold TB; omega) (by unfold TB; omega)
            have f1 : σ2 (TB 0) 1 = σ (TB 0) 1 := hF _ _ (by unfold TB; omega) (by unfold TB; omega)
            have hT2 := hF.tok hT0
            refine g_iload2 X dX2_findLeast_36 ?_
            refine g_aload0 X dX2_findLeast_37 ?_
            refine gf_2_table X i2 (by decide +kernel) dX2_findLeast_38 ?_
            refine gf_4_workers X (by omega) i4 (by decide +kernel) dX2_findLeast_41 ?_
            refine g_icmp_ge (tgt := 136) X (by first | exact hRL36 _ _ | exact hR30 _ _ | exact hRL2 _ _ | exact hR0 _ _ | assumption | (unfold InR; omega)) (by first | exact hRL36 _ _ | exact hR30 _ _ | exact hRL2 _ _ | exact hR0 _ _ | assumption | (unfold InR; omega)) dX2_findLeast_44 (by decide) (fun h44 => ?_) (fun h44 => ?_)
            · skip
              exact g_vret X hr ⟨hF, fun j h1 h2 => by rw [hl j h1 h2]; unfold lpP; congr 1; omega⟩ dX2_findLeast_136
            · skip
              have eA : ub (p2 (σ2 (TB 0) 0) - 1) w = ub (AW σ) w := by unfold AW; rw [f0]
              have hub := ub_AW hT0 (w := w) (by omega)
              refine g_iload1 X dX2_findLeast_47 ?_
              refine g_aload0 X dX2_findLeast_48 ?_
              refine gf_2_plans X i2 (by decide +kernel) dX2_findLeast_49 ?_
              refine g_aload0 X dX2_findLeast_52 ?_
              refine gf_2_table X i2 (by decide +kernel) dX2_findLeast_53 ?_
              refine g_iload2 X dX2_findLeast_56 ?_
              refine g_F1 X (k_X4_allWorkersBut E (by omega) (by omega) (by omega)) gX2_findLeast_X4_allWorkersBut rfl (by decide +kernel) (by decide) (ob_TB (by omega)) (Nat.le_of_ble_eq_true rfl) dX2_findLeast_57 (fun hz57 => ?_)
              refine g_rg (fun hR57 => ?_)
              rw [eA]
              refine g_I1 X (k_X1_leastTotalOf E hT2 (by omega)) gX2_findLeast_X1_leastTotalOf rfl (by decide +kernel) (by decide) ob_3 (Nat.le_of_ble_eq_true rfl) dX2_findLeast_60 (fun z60 σ60 hz60 hp60 => ?_)
              refine g_rg (fun hR60 => ?_)
              have ez2 : z60 = RW σ (ub (AW σ) w) 0 0 := by rw [hp60.1, RW_FR7 hT0 hF _ _ _ (by omega)]
              have hzb2 := RW_b hT0 (ub (AW σ) w) 0 0 (by omega)
              rw [ez2]
              refine g_isub X dX2_findLeast_63 ?_
              have hsh := shR_b hT0 w
              show WG E ad 5 _ 64 _ (.int (iI (shR σ w)) :: _)
              refine g_istore3 X dX2_findLeast_64 (by decide) (by first | exact Or.inl rfl | exact Or.inr ⟨_, rfl, rfl⟩) ?_
              refine g_iconst X dX2_findLeast_65 ?_
              refine g_istore4 X dX2_findLeast_66 (by decide) (by first | exact Or.inl rfl | exact Or.inr ⟨_, rfl, rfl⟩) ?_
              have L68 : ∀ (n68 : Nat) (i : Int) (σ3 : St), (σ (TB 0) 1 - i).toNat < n68 → (0 ≤ i ∧ i ≤ σ (TB 0) 1) → (FR7 σ σ3) → (∀ j, 0 ≤ j → j < i → σ3 7 j = lpS σ j (w + 1)) → (∀ j, i ≤ j → j < σ (TB 0) 1 → σ3 7 j = lpS σ j w) → WG E ad 5 σ3 68 [some (.ref (ad 6)), some (.int (iI (RW σ (AW σ) 0 0))), some (.int (iI w)), some (.int (iI (shR σ w))), some (.int (iI i))] [] := by
                intro n68
                induction n68 with
                | zero => intro i σ3 hn; exact absurd hn (Nat.not_lt_zero _)
                | succ n68 ih68 =>
                  intro i σ3 hn68 hi3 hF3 hl3 hm3
                  refine g_rg (fun hRL68 => ?_)
                  have g1 : σ3 (TB 0) 1 = σ (TB 0) 1 := hF3 _ _ (by unfold TB; omega) (by unfold TB; omega)
                  have hT3 := hF3.tok hT0
                  refine g_iload4 X dX2_findLeast_68 ?_
                  refine g_aload0 X dX2_findLeast_70 ?_
                  refine gf_2_table X i2 (by decide +kernel) dX2_findLeast_71 ?_
                  refine gf_4_tasks X (by omega) i4 (by decide +kernel) dX2_findLeast_74 ?_
                  refine g_icmp_ge (tgt := 130) X (by first | exact hRL68 _ _ | exact hR60 _ _ | exact hR57 _ _ | exact hRL36 _ _ | exact hR30 _ _ | exact hRL2 _ _ | exact hR0 _ _ | assumption | (unfold InR; omega)) (by first | exact hRL68 _ _ | exact hR60 _ _ | exact hR57 _ _ | exact hRL36 _ _ | exact hR30 _ _ | exact hRL2 _ _ | exact hR0 _ _ | assumption | (unfold InR; omega)) dX2_findLeast_77 (by decide) (fun h77 => ?_) (fun h77 => ?_)
                  · skip
                    refine g_iinc2 X dX2_findLeast_130 (by decide) (by first | exact Or.inl rfl | exact Or.inr ⟨_, rfl, rfl⟩) ?_
                    refine g_goto (tgt := 36) X dX2_findLeast_133 (by decide) ?_
                    refine ih36 _ _ _ _ (by omega) ?_ ?_ ?_
                    · omega
                    · exact hF3
                    · intro j h1 h2
                      exact hl3 j h1 (by omega)
                  · skip
                    have hb1 := isB_01 σ3 0 w i
                    have eB : isB σ3 0 w i = isB σ 0 w i := by
                      unfold isB
                      rw [hF3 (TR 0 w) i (by unfold TR; omega) (by unfold TR; omega)]
                    have eC3 : σ3 (TR 0 w) i = σ (TR 0 w) i := hF3 _ _ (by unfold TR; omega) (by unfold TR; omega)
                    have hc3 := hT0.2.2.2 w i hw.1 (by omega) hi3.1 (by omega)
                    have hlb := lpS_b hT0 (j := i) (by omega) w.toNat (by omega)
                    rw [Int.toNat_of_nonneg hw.1] at hlb
                    have hm3i := hm3 i (by omega) (by omega)
                    refine g_aload0 X dX2_findLeast_80 ?_
                    refine gf_2_table X i2 (by decide +kernel) dX2_findLeast_81 ?_
                    refine g_iload2 X dX2_findLeast_84 ?_
                    refine g_iload4 X dX2_findLeast_85 ?_
                    refine g_F2 X (k_X4_isBarred E (by omega) (by omega) (by omega)) gX2_findLeast_X4_isBarred rfl (by decide +kernel) (by decide) (ob_TB (by omega)) (Nat.le_of_ble_eq_true rfl) dX2_findLeast_87 (fun hz87 => ?_)
                    refine g_rg (fun hR87 => ?_)
                    refine g_if_ne (tgt := 124) X (by first | exact hR87 _ _ | exact hRL68 _ _ | exact hR60 _ _ | exact hR57 _ _ | exact hRL36 _ _ | exact hR30 _ _ | exact hRL2 _ _ | exact hR0 _ _ | assumption | (unfold InR; omega)) dX2_findLeast_90 (by decide) (fun h90 => ?_) (fun h90 => ?_)
                    · skip
                      refine g_iinc4 X dX2_findLeast_124 (by decide) (by first | exact Or.inl rfl | exact Or.inr ⟨_, rfl, rfl⟩) ?_
                      refine g_goto (tgt := 68) X dX2_findLeast_127 (by decide) ?_
                      refine ih68 _ _ (by omega) ?_ ?_ ?_ ?_
                      · omega
                      · first | exact hF3 | exact fun q k h7 hq => (by unfold up; rw [if_neg (fun h => h7 h.1)]; exact hF3 q k h7 hq)
                      · intro j h1 h2
                        by_cases hj : j = i
                        · rw [hj, lpS_s hw.1]
                          first
                            | (rw [if_pos (by omega)]; exact hm3 i (by omega) (by omega))
                            | (unfold up; rw [if_pos ⟨rfl, rfl⟩, if_neg (by omega), hm3 i (by omega) (by omega), eC3])
                        · first
                            | exact hl3 j h1 (by omega)
                            | (unfold up; rw [if_neg (fun h => hj h.2)]; exact hl3 j h1 (by omega))
                      · intro j h1 h2
                        first
                          | exact hm3 j (by omega) h2
                          | (unfold up; rw [if_neg (by omega)]; exact hm3 j (by omega) h2)
                    · skip
                      refine g_aload0 X dX2_findLeast_93 ?_
                      refine gf_2_least X i2 (by decide +kernel) dX2_findLeast_94 ?_
                      refine g_iload4 X dX2_findLeast_97 ?_
                      refine g_aload0 X dX2_findLeast_99 ?_
                      refine gf_2_least X i2 (by decide +kernel) dX2_findLeast_100 ?_
                      refine g_iload4 X dX2_findLeast_103 ?_
                      refine g_iald X (ia_7 (by omega)) dX2_findLeast_105 ?_
                      refine g_iload3 X dX2_findLeast_106 ?_
                      refine g_aload0 X dX2_findLeast_107 ?_
                      refine gf_2_table X i2 (by decide +kernel) dX2_findLeast_108 ?_
                      refine gf_4_costs X (by omega) i4 (by decide +kernel) dX2_findLeast_111 ?_
                      refine g_iload2 X dX2_findLeast_114 ?_
                      refine g_aald_TC X (by omega) (by omega) dX2_findLeast_115 ?_
                      refine g_iload4 X dX2_findLeast_116 ?_
                      refine g_iald X (ia_TR (by omega) (by omega) (by omega)) dX2_findLeast_118 ?_
                      refine g_isub X dX2_findLeast_119 ?_
                      refine g_max X (by first | exact hR87 _ _ | exact hRL68 _ _ | exact hR60 _ _ | exact hR57 _ _ | exact hRL36 _ _ | exact hR30 _ _ | exact hRL2 _ _ | exact hR0 _ _ | assumption | (unfold InR; omega)) (by first | exact hR87 _ _ | exact hRL68 _ _ | exact hR60 _ _ | exact hR57 _ _ | exact hRL36 _ _ | exact hR30 _ _ | exact hRL2 _ _ | exact hR0 _ _ | assumption | (unfold InR; omega)) (by decide +kernel) (by decide +kernel) (by decide +kernel) (by decide +kernel) (by decide) (Nat.le_of_ble_eq_true rfl) dX2_findLeast_120 ?_
                      refine g_iast X (ia_7 (by omega)) (by first | exact hR87 _ _ | exact hRL68 _ _ | exact hR60 _ _ | exact hR57 _ _ | exact hRL36 _ _ | exact hR30 _ _ | exact hRL2 _ _ | exact hR0 _ _ | assumption | (unfold InR; omega)) dX2_findLeast_123 ?_
                      refine g_rg (fun hR123 => ?_)
                      refine g_iinc4 X dX2_findLeast_124 (by decide) (by first | exact Or.inl rfl | exact Or.inr ⟨_, rfl, rfl⟩) ?_
                      refine g_goto (tgt := 68) X dX2_findLeast_127 (by decide) ?_
                      refine ih68 _ _ (by omega) ?_ ?_ ?_ ?_
                      · omega
                      · first | exact hF3 | exact fun q k h7 hq => (by unfold up; rw [if_neg (fun h => h7 h.1)]; exact hF3 q k h7 hq)
                      · intro j h1 h2
                        by_cases hj : j = i
                        · rw [hj, lpS_s hw.1]
                          first
                            | (rw [if_pos (by omega)]; exact hm3 i (by omega) (by omega))
                            | (unfold up; rw [if_pos ⟨rfl, rfl⟩, if_neg (by omega), hm3 i (by omega) (by omega), eC3])
                        · first
                            | exact hl3 j h1 (by omega)
                            | (unfold up; rw [if_neg (fun h => hj h.2)]; exact hl3 j h1 (by omega))
                      · intro j h1 h2
                        first
                          | exact hm3 j (by omega) h2
                          | (unfold up; rw [if_neg (by omega)]; exact hm3 j (by omega) h2)
              refine L68 _ _ _ (Nat.lt_succ_self _) ?_ ?_ ?_ ?_
              · omega
              · exact fun q k h7 hq => (hp60.2.1 q k hq).trans (hF q k h7 hq)
              · intro j h1 h2
                omega
              · intro j h1 h2
                rw [hp60.2.1 7 j (by omega)]
                exact hl j (by omega) h2
        refine L36 _ _ _ _ _ (Nat.lt_succ_self _) ?_ ?_ ?_
        · omega
        · exact fun q k h7 hq => (hp30.2.1 q k hq).trans (hf q k h7)
        · intro j h1 h2
          rw [hp30.2.1 7 j (by omega), hz j h1 (by omega)]
          rfl
      · skip
        refine g_aload0 X dX2_findLeast_13 ?_
        refine gf_2_least X i2 (by decide +kernel) dX2_findLeast_14 ?_
        refine g_iload1 X dX2_findLeast_17 ?_
        refine g_iconst X dX2_findLeast_18 ?_
        refine g_iast X (ia_7 (by omega)) (by first | exact hRL2 _ _ | exact hR0 _ _ | assumption | (unfold InR; omega)) dX2_findLeast_19 ?_
        refine g_rg (fun hR19 => ?_)
        refine g_iinc1 X dX2_findLeast_20 (by decide) (by first | exact Or.inl rfl | exact Or.inr ⟨_, rfl, rfl⟩) ?_
        refine g_goto (tgt := 2) X dX2_findLeast_23 (by decide) ?_
        refine ih2 _ _ _ _ _ (by omega) ?_ ?_ ?_
        · omega
        · intro q k hq
          unfold up
          rw [if_neg (fun h => hq h.1)]
          exact hf q k hq
        · intro j h1 h2
          unfold up
          by_cases hk : j = i
          · rw [if_pos ⟨rfl, hk⟩]
          · rw [if_neg (fun h => hk h.2)]
            exact hz j h1 (by omega)
  refine L2 _ _ _ _ _ _ (Nat.lt_succ_self _) ?_ ?_ ?_
  · omega
  · intro q k _
    rfl
  · intro j h1 h2
    omega
end
section
set_option maxRecDepth 20000 in
theorem ggX3_init_X4_init : GoodIn wsX3_init wsX4_init := goodIn_r _ [11, 12, 2, 3, 13, 14, 15, 16, 21, 22, 23, 24] (by decide +kernel) (by decide +kernel)
set_option maxRecDepth 20000 in
theorem gX3_init_X4_init : GoodIn wsX3_init (wsX4_init) := ggX3_init_X4_init
theorem dX3_init_0 : decode cX3_init 0 = .ok (.aload_n 0, 1) := by decide +kernel
theorem dX3_init_1 : decode cX3_init 1 = .ok (.invokespecial 3, 3) := by decide +kernel
theorem dX3_init_4 : decode cX3_init 4 = .ok (.aload_n 0, 1) := by decide +kernel
theorem dX3_init_5 : decode cX3_init 5 = .ok (.aload_n 1, 1) := by decide +kernel
theorem dX3_init_6 : decode cX3_init 6 = .ok (.putfield 9, 3) := by decide +kernel
theorem dX3_init_9 : decode cX3_init 9 = .ok (.aload_n 0, 1) := by decide +kernel
theorem dX3_init_10 : decode cX3_init 10 = .ok (.new 15, 3) := by decide +kernel
theorem dX3_init_13 : decode cX3_init 13 = .ok (.dup, 1) := by decide +kernel
theorem dX3_init_14 : decode cX3_init 14 = .ok (.invokespecial 17, 3) := by decide +kernel
theorem dX3_init_17 : decode cX3_init 17 = .ok (.putfield 18, 3) := by decide +kernel
theorem dX3_init_20 : decode cX3_init 20 = .ok (.return_, 1) := by decide +kernel
set_option maxRecDepth 20000 in
theorem ggX3_readText_X3_readRow : GoodIn wsX3_readText wsX3_readRow := goodIn_r _ [11, 2, 3, 12, 13, 14, 15, 16, 10, 17, 18, 5, 1, 19, 20, 21, 22, 23, 24, 25, 26, 27, 28, 29, 30, 31, 32, 33, 34, 35, 36, 37, 38, 39, 40, 41, 42, 43, 44, 45, 46, 47, 48, 49, 50, 51] (by decide +kernel) (by decide +kernel)
set_option maxRecDepth 20000 in
theorem gX3_readText_X3_readRow : GoodIn wsX3_readText (wsV RX3 29 RX3 yX3_readRow wsX3_readRow) := goodIn_app (goodIn_of _ (by decide +kernel)) ggX3_readText_X3_readRow
set_option maxRecDepth 20000 in
theorem ggX3_readText_X3_step : GoodIn wsX3_readText wsX3_step := goodIn_r _ [41, 5, 1, 2, 23, 24, 25, 26, 27, 28, 29, 42, 43, 44, 45, 50, 51] (by decide +kernel) (by decide +kernel)
set_option maxRecDepth 20000 in
theorem gX3_readText_X3_step : GoodIn wsX3_readText (wsV RX3 41 RX3 yX3_step wsX3_step) := goodIn_app (goodIn_of _ (by decide +kernel)) ggX3_readText_X3_step
theorem dX3_readText_0 : decode cX3_readText 0 = .ok (.aload_n 0, 1) := by decide +kernel
theorem dX3_readText_1 : decode cX3_readText 1 = .ok (.iconst 0, 1) := by decide +kernel
theorem dX3_readText_2 : decode cX3_readText 2 = .ok (.putfield 22, 3) := by decide +kernel
theorem dX3_readText_5 : decode cX3_readText 5 = .ok (.aload_n 0, 1) := by decide +kernel
theorem dX3_readText_6 : decode cX3_readText 6 = .ok (.iconst 0, 1) := by decide +kernel
theorem dX3_readText_7 : decode cX3_readText 7 = .ok (.putfield 26, 3) := by decide +kernel
theorem dX3_readText_10 : decode cX3_readText 10 = .ok (.iconst 0, 1) := by decide +kernel
theorem dX3_readText_11 : decode cX3_readText 11 = .ok (.istore_n 1, 1) := by decide +kernel
theorem dX3_readText_12 : decode cX3_readText 12 = .ok (.iconst 0, 1) := by decide +kernel
theorem dX3_readText_13 : decode cX3_readText 13 = .ok (.istore_n 2, 1) := by decide +kernel
theorem dX3_readText_14 : decode cX3_readText 14 = .ok (.iload_n 2, 1) := by decide +kernel
theorem dX3_readText_15 : decode cX3_readText 15 = .ok (.bipush 7, 2) := by decide +kernel
theorem dX3_readText_17 : decode cX3_readText 17 = .ok (.if_icmp .ge 91, 3) := by decide +kernel
theorem dX3_readText_20 : decode cX3_readText 20 = .ok (.iload_n 1, 1) := by decide +kernel
theorem dX3_readText_21 : decode cX3_readText 21 = .ok (.ifCond .ne 87, 3) := by decide +kernel
theorem dX3_readText_24 : decode cX3_readText 24 = .ok (.aload_n 0, 1) := by decide +kernel
theorem dX3_readText_25 : decode cX3_readText 25 = .ok (.iload_n 2, 1) := by decide +kernel
theorem dX3_readText_26 : decode cX3_readText 26 = .ok (.invokevirtual 29, 3) := by decide +kernel
theorem dX3_readText_29 : decode cX3_readText 29 = .ok (.aload_n 0, 1) := by decide +kernel
theorem dX3_readText_30 : decode cX3_readText 30 = .ok (.getfield 18, 3) := by decide +kernel
theorem dX3_readText_33 : decode cX3_readText 33 = .ok (.iload_n 2, 1) := by decide +kernel
theorem dX3_readText_34 : decode cX3_readText 34 = .ok (.iconst 1, 1) := by decide +kernel
theorem dX3_readText_35 : decode cX3_readText 35 = .ok (.iadd, 1) := by decide +kernel
theorem dX3_readText_36 : decode cX3_readText 36 = .ok (.putfield 33, 3) := by decide +kernel
theorem dX3_readText_39 : decode cX3_readText 39 = .ok (.aload_n 0, 1) := by decide +kernel
theorem dX3_readText_40 : decode cX3_readText 40 = .ok (.getfield 26, 3) := by decide +kernel
theorem dX3_readText_43 : decode cX3_readText 43 = .ok (.ifCond .ne 17, 3) := by decide +kernel
theorem dX3_readText_46 : decode cX3_readText 46 = .ok (.aload_n 0, 1) := by decide +kernel
theorem dX3_readText_47 : decode cX3_readText 47 = .ok (.getfield 22, 3) := by decide +kernel
theorem dX3_readText_50 : decode cX3_readText 50 = .ok (.aload_n 0, 1) := by decide +kernel
theorem dX3_readText_51 : decode cX3_readText 51 = .ok (.getfield 9, 3) := by decide +kernel
theorem dX3_readText_54 : decode cX3_readText 54 = .ok (.getfield 36, 3) := by decide +kernel
theorem dX3_readText_57 : decode cX3_readText 57 = .ok (.if_icmp .ne 7, 3) := by decide +kernel
theorem dX3_readText_60 : decode cX3_readText 60 = .ok (.iconst 1, 1) := by decide +kernel
theorem dX3_readText_61 : decode cX3_readText 61 = .ok (.goto 4, 3) := by decide +kernel
theorem dX3_readText_64 : decode cX3_readText 64 = .ok (.iconst 0, 1) := by decide +kernel
theorem dX3_readText_65 : decode cX3_readText 65 = .ok (.istore_n 1, 1) := by decide +kernel
theorem dX3_readText_66 : decode cX3_readText 66 = .ok (.iload_n 1, 1) := by decide +kernel
theorem dX3_readText_67 : decode cX3_readText 67 = .ok (.ifCond .ne 35, 3) := by decide +kernel
theorem dX3_readText_70 : decode cX3_readText 70 = .ok (.aload_n 0, 1) := by decide +kernel
theorem dX3_readText_71 : decode cX3_readText 71 = .ok (.bipush 59, 2) := by decide +kernel
theorem dX3_readText_73 : decode cX3_readText 73 = .ok (.iload_n 2, 1) := by decide +kernel
theorem dX3_readText_74 : decode cX3_readText 74 = .ok (.iconst 1, 1) := by decide +kernel
theorem dX3_readText_75 : decode cX3_readText 75 = .ok (.iadd, 1) := by decide +kernel
theorem dX3_readText_76 : decode cX3_readText 76 = .ok (.bipush 7, 2) := by decide +kernel
theorem dX3_readText_78 : decode cX3_readText 78 = .ok (.if_icmp .ge 7, 3) := by decide +kernel
theorem dX3_readText_81 : decode cX3_readText 81 = .ok (.iconst 1, 1) := by decide +kernel
theorem dX3_readText_82 : decode cX3_readText 82 = .ok (.goto 4, 3) := by decide +kernel
theorem dX3_readText_85 : decode cX3_readText 85 = .ok (.iconst 0, 1) := by decide +kernel
theorem dX3_readText_86 : decode cX3_readText 86 = .ok (.invokevirtual 41, 3) := by decide +kernel
theorem dX3_readText_89 : decode cX3_readText 89 = .ok (.aload_n 0, 1) := by decide +kernel
theorem dX3_readText_90 : decode cX3_readText 90 = .ok (.getfield 26, 3) := by decide +kernel
theorem dX3_readText_93 : decode cX3_readText 93 = .ok (.ifCond .eq 7, 3) := by decide +kernel
theorem dX3_readText_96 : decode cX3_readText 96 = .ok (.iconst 1, 1) := by decide +kernel
theorem dX3_readText_97 : decode cX3_readText 97 = .ok (.goto 4, 3) := by decide +kernel
theorem dX3_readText_100 : decode cX3_readText 100 = .ok (.iconst 0, 1) := by decide +kernel
theorem dX3_readText_101 : decode cX3_readText 101 = .ok (.istore_n 1, 1) := by decide +kernel
theorem dX3_readText_102 : decode cX3_readText 102 = .ok (.iinc 2 1, 3) := by decide +kernel
theorem dX3_readText_105 : decode cX3_readText 105 = .ok (.goto (-91), 3) := by decide +kernel
theorem dX3_readText_108 : decode cX3_readText 108 = .ok (.return_, 1) := by decide +kernel
set_option maxRecDepth 20000 in
theorem ggX3_readRow_X3_readEntries : GoodIn wsX3_readRow wsX3_readEntries := goodIn_r _ [9, 2, 3, 10, 1, 11, 12, 13, 14, 15, 8, 16, 17, 18, 19, 20, 21, 22, 23, 24, 25, 26, 27, 28, 29, 30, 31, 32, 33, 34, 35, 36, 37, 38, 39, 40, 41, 42, 43, 44, 45] (by decide +kernel) (by decide +kernel)
set_option maxRecDepth 20000 in
theorem gX3_readRow_X3_readEntries : GoodIn wsX3_readRow (wsV RX3 45 RX3 yX3_readEntries wsX3_readEntries) := goodIn_app (goodIn_of _ (by decide +kernel)) ggX3_readRow_X3_readEntries
set_option maxRecDepth 20000 in
theorem ggX3_readRow_X3_step : GoodIn wsX3_readRow wsX3_step := goodIn_r _ [35, 11, 12, 1, 17, 18, 19, 20, 21, 22, 23, 36, 37, 38, 39, 44, 45] (by decide +kernel) (by decide +kernel)
set_option maxRecDepth 20000 in
theorem gX3_readRow_X3_step : GoodIn wsX3_readRow (wsV RX3 41 RX3 yX3_step wsX3_step) := goodIn_app (goodIn_of _ (by decide +kernel)) ggX3_readRow_X3_step
set_option maxRecDepth 20000 in
theorem ggX3_readRow_X3_readNumber : GoodIn wsX3_readRow wsX3_readNumber := goodIn_r _ [27, 11, 12, 1, 28, 29, 30, 20, 31, 22, 23, 36, 37, 38, 39, 44, 45] (by decide +kernel) (by decide +kernel)
set_option maxRecDepth 20000 in
theorem gX3_readRow_X3_readNumber : GoodIn wsX3_readRow (wsV RX3 56 RX3 yX3_readNumber wsX3_readNumber) := goodIn_app (goodIn_of _ (by decide +kernel)) ggX3_readRow_X3_readNumber
theorem dX3_readRow_0 : decode cX3_readRow 0 = .ok (.aload_n 0, 1) := by decide +kernel
theorem dX3_readRow_1 : decode cX3_readRow 1 = .ok (.iload_n 1, 1) := by decide +kernel
theorem dX3_readRow_2 : decode cX3_readRow 2 = .ok (.invokevirtual 45, 3) := by decide +kernel
theorem dX3_readRow_5 : decode cX3_readRow 5 = .ok (.istore_n 2, 1) := by decide +kernel
theorem dX3_readRow_6 : decode cX3_readRow 6 = .ok (.aload_n 0, 1) := by decide +kernel
theorem dX3_readRow_7 : decode cX3_readRow 7 = .ok (.getfield 26, 3) := by decide +kernel
theorem dX3_readRow_10 : decode cX3_readRow 10 = .ok (.ifCond .ne 29, 3) := by decide +kernel
theorem dX3_readRow_13 : decode cX3_readRow 13 = .ok (.aload_n 0, 1) := by decide +kernel
theorem dX3_readRow_14 : decode cX3_readRow 14 = .ok (.bipush 47, 2) := by decide +kernel
theorem dX3_readRow_16 : decode cX3_readRow 16 = .ok (.iload_n 1, 1) := by decide +kernel
theorem dX3_readRow_17 : decode cX3_readRow 17 = .ok (.ifCond .eq 14, 3) := by decide +kernel
theorem dX3_readRow_20 : decode cX3_readRow 20 = .ok (.iload_n 2, 1) := by decide +kernel
theorem dX3_readRow_21 : decode cX3_readRow 21 = .ok (.aload_n 0, 1) := by decide +kernel
theorem dX3_readRow_22 : decode cX3_readRow 22 = .ok (.getfield 18, 3) := by decide +kernel
theorem dX3_readRow_25 : decode cX3_readRow 25 = .ok (.getfield 49, 3) := by decide +kernel
theorem dX3_readRow_28 : decode cX3_readRow 28 = .ok (.if_icmp .ne 7, 3) := by decide +kernel
theorem dX3_readRow_31 : decode cX3_readRow 31 = .ok (.iconst 1, 1) := by decide +kernel
theorem dX3_readRow_32 : decode cX3_readRow 32 = .ok (.goto 4, 3) := by decide +kernel
theorem dX3_readRow_35 : decode cX3_readRow 35 = .ok (.iconst 0, 1) := by decide +kernel
theorem dX3_readRow_36 : decode cX3_readRow 36 = .ok (.invokevirtual 41, 3) := by decide +kernel
theorem dX3_readRow_39 : decode cX3_readRow 39 = .ok (.aload_n 0, 1) := by decide +kernel
theorem dX3_readRow_40 : decode cX3_readRow 40 = .ok (.getfield 26, 3) := by decide +kernel
theorem dX3_readRow_43 : decode cX3_readRow 43 = .ok (.ifCond .ne 16, 3) := by decide +kernel
theorem dX3_readRow_46 : decode cX3_readRow 46 = .ok (.aload_n 0, 1) := by decide +kernel
theorem dX3_readRow_47 : decode cX3_readRow 47 = .ok (.getfield 18, 3) := by decide +kernel
theorem dX3_readRow_50 : decode cX3_readRow 50 = .ok (.getfield 52, 3) := by decide +kernel
theorem dX3_readRow_53 : decode cX3_readRow 53 = .ok (.iload_n 1, 1) := by decide +kernel
theorem dX3_readRow_54 : decode cX3_readRow 54 = .ok (.aload_n 0, 1) := by decide +kernel
theorem dX3_readRow_55 : decode cX3_readRow 55 = .ok (.invokevirtual 56, 3) := by decide +kernel
theorem dX3_readRow_58 : decode cX3_readRow 58 = .ok (.iastore, 1) := by decide +kernel
theorem dX3_readRow_59 : decode cX3_readRow 59 = .ok (.iload_n 1, 1) := by decide +kernel
theorem dX3_readRow_60 : decode cX3_readRow 60 = .ok (.ifCond .ne 11, 3) := by decide +kernel
theorem dX3_readRow_63 : decode cX3_readRow 63 = .ok (.aload_n 0, 1) := by decide +kernel
theorem dX3_readRow_64 : decode cX3_readRow 64 = .ok (.getfield 18, 3) := by decide +kernel
theorem dX3_readRow_67 : decode cX3_readRow 67 = .ok (.iload_n 2, 1) := by decide +kernel
theorem dX3_readRow_68 : decode cX3_readRow 68 = .ok (.putfield 49, 3) := by decide +kernel
theorem dX3_readRow_71 : decode cX3_readRow 71 = .ok (.return_, 1) := by decide +kernel
set_option maxRecDepth 20000 in
theorem ggX3_readEntries_X3_readEntry : GoodIn wsX3_readEntries wsX3_readEntry := goodIn_r _ [11, 5, 6, 12, 13, 14, 15, 16, 17, 18, 19, 20, 21, 10, 22, 4, 23, 24, 25, 26, 31, 32, 33, 34, 39, 40] (by decide +kernel) (by decide +kernel)
set_option maxRecDepth 20000 in
theorem gX3_readEntries_X3_readEntry : GoodIn wsX3_readEntries (wsV RX3 64 RX3 yX3_readEntry wsX3_readEntry) := goodIn_app (goodIn_of _ (by decide +kernel)) ggX3_readEntries_X3_readEntry
set_option maxRecDepth 20000 in
theorem ggX3_readEntries_X5_isAt : GoodIn wsX3_readEntries wsX5_isAt := goodIn_r _ [16, 17, 18, 39, 40] (by decide +kernel) (by decide +kernel)
set_option maxRecDepth 20000 in
theorem gX3_readEntries_X5_isAt : GoodIn wsX3_readEntries (wsV RX3 67 RX5 yX5_isAt wsX5_isAt) := goodIn_app (goodIn_of _ (by decide +kernel)) ggX3_readEntries_X5_isAt
set_option maxRecDepth 20000 in
theorem ggX3_readEntries_X3_step : GoodIn wsX3_readEntries wsX3_step := goodIn_r _ [30, 5, 6, 4, 12, 13, 14, 15, 16, 17, 18, 31, 32, 33, 34, 39, 40] (by decide +kernel) (by decide +kernel)
set_option maxRecDepth 20000 in
theorem gX3_readEntries_X3_step : GoodIn wsX3_readEntries (wsV RX3 41 RX3 yX3_step wsX3_step) := goodIn_app (goodIn_of _ (by decide +kernel)) ggX3_readEntries_X3_step
theorem dX3_readEntries_0 : decode cX3_readEntries 0 = .ok (.iload_n 1, 1) := by decide +kernel
theorem dX3_readEntries_1 : decode cX3_readEntries 1 = .ok (.ifCond .ne 8, 3) := by decide +kernel
theorem dX3_readEntries_4 : decode cX3_readEntries 4 = .ok (.bipush 7, 2) := by decide +kernel
theorem dX3_readEntries_6 : decode cX3_readEntries 6 = .ok (.goto 10, 3) := by decide +kernel
theorem dX3_readEntries_9 : decode cX3_readEntries 9 = .ok (.aload_n 0, 1) := by decide +kernel
theorem dX3_readEntries_10 : decode cX3_readEntries 10 = .ok (.getfield 18, 3) := by decide +kernel
theorem dX3_readEntries_13 : decode cX3_readEntries 13 = .ok (.getfield 49, 3) := by decide +kernel
theorem dX3_readEntries_16 : decode cX3_readEntries 16 = .ok (.istore_n 2, 1) := by decide +kernel
theorem dX3_readEntries_17 : decode cX3_readEntries 17 = .ok (.iconst 0, 1) := by decide +kernel
theorem dX3_readEntries_18 : decode cX3_readEntries 18 = .ok (.istore_n 3, 1) := by decide +kernel
theorem dX3_readEntries_19 : decode cX3_readEntries 19 = .ok (.iconst 1, 1) := by decide +kernel
theorem dX3_readEntries_20 : decode cX3_readEntries 20 = .ok (.istore 4, 2) := by decide +kernel
theorem dX3_readEntries_22 : decode cX3_readEntries 22 = .ok (.iload 4, 2) := by decide +kernel
theorem dX3_readEntries_24 : decode cX3_readEntries 24 = .ok (.ifCond .eq 80, 3) := by decide +kernel
theorem dX3_readEntries_27 : decode cX3_readEntries 27 = .ok (.iload_n 3, 1) := by decide +kernel
theorem dX3_readEntries_28 : decode cX3_readEntries 28 = .ok (.iload_n 2, 1) := by decide +kernel
theorem dX3_readEntries_29 : decode cX3_readEntries 29 = .ok (.if_icmp .ge 75, 3) := by decide +kernel
theorem dX3_readEntries_32 : decode cX3_readEntries 32 = .ok (.aload_n 0, 1) := by decide +kernel
theorem dX3_readEntries_33 : decode cX3_readEntries 33 = .ok (.getfield 18, 3) := by decide +kernel
theorem dX3_readEntries_36 : decode cX3_readEntries 36 = .ok (.getfield 60, 3) := by decide +kernel
theorem dX3_readEntries_39 : decode cX3_readEntries 39 = .ok (.iload_n 1, 1) := by decide +kernel
theorem dX3_readEntries_40 : decode cX3_readEntries 40 = .ok (.aaload, 1) := by decide +kernel
theorem dX3_readEntries_41 : decode cX3_readEntries 41 = .ok (.iload_n 3, 1) := by decide +kernel
theorem dX3_readEntries_42 : decode cX3_readEntries 42 = .ok (.aload_n 0, 1) := by decide +kernel
theorem dX3_readEntries_43 : decode cX3_readEntries 43 = .ok (.invokevirtual 64, 3) := by decide +kernel
theorem dX3_readEntries_46 : decode cX3_readEntries 46 = .ok (.iastore, 1) := by decide +kernel
theorem dX3_readEntries_47 : decode cX3_readEntries 47 = .ok (.iinc 3 1, 3) := by decide +kernel
theorem dX3_readEntries_50 : decode cX3_readEntries 50 = .ok (.aload_n 0, 1) := by decide +kernel
theorem dX3_readEntries_51 : decode cX3_readEntries 51 = .ok (.getfield 26, 3) := by decide +kernel
theorem dX3_readEntries_54 : decode cX3_readEntries 54 = .ok (.ifCond .ne 23, 3) := by decide +kernel
theorem dX3_readEntries_57 : decode cX3_readEntries 57 = .ok (.aload_n 0, 1) := by decide +kernel
theorem dX3_readEntries_58 : decode cX3_readEntries 58 = .ok (.getfield 9, 3) := by decide +kernel
theorem dX3_readEntries_61 : decode cX3_readEntries 61 = .ok (.aload_n 0, 1) := by decide +kernel
theorem dX3_readEntries_62 : decode cX3_readEntries 62 = .ok (.getfield 22, 3) := by decide +kernel
theorem dX3_readEntries_65 : decode cX3_readEntries 65 = .ok (.bipush 44, 2) := by decide +kernel
theorem dX3_readEntries_67 : decode cX3_readEntries 67 = .ok (.invokevirtual 67, 3) := by decide +kernel
theorem dX3_readEntries_70 : decode cX3_readEntries 70 = .ok (.ifCond .eq 7, 3) := by decide +kernel
theorem dX3_readEntries_73 : decode cX3_readEntries 73 = .ok (.iconst 1, 1) := by decide +kernel
theorem dX3_readEntries_74 : decode cX3_readEntries 74 = .ok (.goto 4, 3) := by decide +kernel
theorem dX3_readEntries_77 : decode cX3_readEntries 77 = .ok (.iconst 0, 1) := by decide +kernel
theorem dX3_readEntries_78 : decode cX3_readEntries 78 = .ok (.istore 4, 2) := by decide +kernel
theorem dX3_readEntries_80 : decode cX3_readEntries 80 = .ok (.iload 4, 2) := by decide +kernel
theorem dX3_readEntries_82 : decode cX3_readEntries 82 = .ok (.ifCond .eq (-60), 3) := by decide +kernel
theorem dX3_readEntries_85 : decode cX3_readEntries 85 = .ok (.aload_n 0, 1) := by decide +kernel
theorem dX3_readEntries_86 : decode cX3_readEntries 86 = .ok (.bipush 44, 2) := by decide +kernel
theorem dX3_readEntries_88 : decode cX3_readEntries 88 = .ok (.iload_n 3, 1) := by decide +kernel
theorem dX3_readEntries_89 : decode cX3_readEntries 89 = .ok (.iload_n 2, 1) := by decide +kernel
theorem dX3_readEntries_90 : decode cX3_readEntries 90 = .ok (.if_icmp .ge 7, 3) := by decide +kernel
theorem dX3_readEntries_93 : decode cX3_readEntries 93 = .ok (.iconst 1, 1) := by decide +kernel
theorem dX3_readEntries_94 : decode cX3_readEntries 94 = .ok (.goto 4, 3) := by decide +kernel
theorem dX3_readEntries_97 : decode cX3_readEntries 97 = .ok (.iconst 0, 1) := by decide +kernel
theorem dX3_readEntries_98 : decode cX3_readEntries 98 = .ok (.invokevirtual 41, 3) := by decide +kernel
theorem dX3_readEntries_101 : decode cX3_readEntries 101 = .ok (.goto (-79), 3) := by decide +kernel
theorem dX3_readEntries_104 : decode cX3_readEntries 104 = .ok (.iload_n 3, 1) := by decide +kernel
theorem dX3_readEntries_105 : decode cX3_readEntries 105 = .ok (.ireturn, 1) := by decide +kernel
set_option maxRecDepth 20000 in
theorem ggX3_readEntry_X5_isAt : GoodIn wsX3_readEntry wsX5_isAt := goodIn_r _ [7, 8, 9, 24, 25] (by decide +kernel) (by decide +kernel)
set_option maxRecDepth 20000 in
theorem gX3_readEntry_X5_isAt : GoodIn wsX3_readEntry (wsV RX3 67 RX5 yX5_isAt wsX5_isAt) := goodIn_app (goodIn_of _ (by decide +kernel)) ggX3_readEntry_X5_isAt
set_option maxRecDepth 20000 in
theorem ggX3_readEntry_X3_readNumber : GoodIn wsX3_readEntry wsX3_readNumber := goodIn_r _ [14, 1, 2, 15, 16, 17, 18, 6, 19, 8, 9, 20, 21, 22, 23, 24, 25] (by decide +kernel) (by decide +kernel)
set_option maxRecDepth 20000 in
theorem gX3_readEntry_X3_readNumber : GoodIn wsX3_readEntry (wsV RX3 56 RX3 yX3_readNumber wsX3_readNumber) := goodIn_app (goodIn_of _ (by decide +kernel)) ggX3_readEntry_X3_readNumber
theorem dX3_readEntry_0 : decode cX3_readEntry 0 = .ok (.aload_n 0, 1) := by decide +kernel
theorem dX3_readEntry_1 : decode cX3_readEntry 1 = .ok (.getfield 9, 3) := by decide +kernel
theorem dX3_readEntry_4 : decode cX3_readEntry 4 = .ok (.aload_n 0, 1) := by decide +kernel
theorem dX3_readEntry_5 : decode cX3_readEntry 5 = .ok (.getfield 22, 3) := by decide +kernel
theorem dX3_readEntry_8 : decode cX3_readEntry 8 = .ok (.bipush 120, 2) := by decide +kernel
theorem dX3_readEntry_10 : decode cX3_readEntry 10 = .ok (.invokevirtual 67, 3) := by decide +kernel
theorem dX3_readEntry_13 : decode cX3_readEntry 13 = .ok (.ifCond .eq 15, 3) := by decide +kernel
theorem dX3_readEntry_16 : decode cX3_readEntry 16 = .ok (.aload_n 0, 1) := by decide +kernel
theorem dX3_readEntry_17 : decode cX3_readEntry 17 = .ok (.dup, 1) := by decide +kernel
theorem dX3_readEntry_18 : decode cX3_readEntry 18 = .ok (.getfield 22, 3) := by decide +kernel
theorem dX3_readEntry_21 : decode cX3_readEntry 21 = .ok (.iconst 1, 1) := by decide +kernel
theorem dX3_readEntry_22 : decode cX3_readEntry 22 = .ok (.iadd, 1) := by decide +kernel
theorem dX3_readEntry_23 : decode cX3_readEntry 23 = .ok (.putfield 22, 3) := by decide +kernel
theorem dX3_readEntry_26 : decode cX3_readEntry 26 = .ok (.iconst (-1), 1) := by decide +kernel
theorem dX3_readEntry_27 : decode cX3_readEntry 27 = .ok (.ireturn, 1) := by decide +kernel
theorem dX3_readEntry_28 : decode cX3_readEntry 28 = .ok (.aload_n 0, 1) := by decide +kernel
theorem dX3_readEntry_29 : decode cX3_readEntry 29 = .ok (.invokevirtual 56, 3) := by decide +kernel
theorem dX3_readEntry_32 : decode cX3_readEntry 32 = .ok (.ireturn, 1) := by decide +kernel
set_option maxRecDepth 20000 in
theorem ggX3_readNumber_X5_digitAt : GoodIn wsX3_readNumber wsX5_digitAt := goodIn_r _ [8, 9, 10, 15, 16] (by decide +kernel) (by decide +kernel)
set_option maxRecDepth 20000 in
theorem gX3_readNumber_X5_digitAt : GoodIn wsX3_readNumber (wsV RX3 71 RX5 yX5_digitAt wsX5_digitAt) := goodIn_app (goodIn_of _ (by decide +kernel)) ggX3_readNumber_X5_digitAt
theorem dX3_readNumber_0 : decode cX3_readNumber 0 = .ok (.aload_n 0, 1) := by decide +kernel
theorem dX3_readNumber_1 : decode cX3_readNumber 1 = .ok (.getfield 9, 3) := by decide +kernel
theorem dX3_readNumber_4 : decode cX3_readNumber 4 = .ok (.aload_n 0, 1) := by decide +kernel
theorem dX3_readNumber_5 : decode cX3_readNumber 5 = .ok (.getfield 22, 3) := by decide +kernel
theorem dX3_readNumber_8 : decode cX3_readNumber 8 = .ok (.invokevirtual 71, 3) := by decide +kernel
theorem dX3_readNumber_11 : decode cX3_readNumber 11 = .ok (.istore_n 1, 1) := by decide +kernel
theorem dX3_readNumber_12 : decode cX3_readNumber 12 = .ok (.iload_n 1, 1) := by decide +kernel
theorem dX3_readNumber_13 : decode cX3_readNumber 13 = .ok (.ifCond .ge 10, 3) := by decide +kernel
theorem dX3_readNumber_16 : decode cX3_readNumber 16 = .ok (.aload_n 0, 1) := by decide +kernel
theorem dX3_readNumber_17 : decode cX3_readNumber 17 = .ok (.iconst 1, 1) := by decide +kernel
theorem dX3_readNumber_18 : decode cX3_readNumber 18 = .ok (.putfield 26, 3) := by decide +kernel
theorem dX3_readNumber_21 : decode cX3_readNumber 21 = .ok (.iconst 0, 1) := by decide +kernel
theorem dX3_readNumber_22 : decode cX3_readNumber 22 = .ok (.ireturn, 1) := by decide +kernel
theorem dX3_readNumber_23 : decode cX3_readNumber 23 = .ok (.aload_n 0, 1) := by decide +kernel
theorem dX3_readNumber_24 : decode cX3_readNumber 24 = .ok (.dup, 1) := by decide +kernel
theorem dX3_readNumber_25 : decode cX3_readNumber 25 = .ok (.getfield 22, 3) := by decide +kernel
theorem dX3_readNumber_28 : decode cX3_readNumber 28 = .ok (.iconst 1, 1) := by decide +kernel
theorem dX3_readNumber_29 : decode cX3_readNumber 29 = .ok (.iadd, 1) := by decide +kernel
theorem dX3_readNumber_30 : decode cX3_readNumber 30 = .ok (.putfield 22, 3) := by decide +kernel
theorem dX3_readNumber_33 : decode cX3_readNumber 33 = .ok (.iconst 1, 1) := by decide +kernel
theorem dX3_readNumber_34 : decode cX3_readNumber 34 = .ok (.istore_n 2, 1) := by decide +kernel
theorem dX3_readNumber_35 : decode cX3_readNumber 35 = .ok (.iload_n 2, 1) := by decide +kernel
theorem dX3_readNumber_36 : decode cX3_readNumber 36 = .ok (.iconst 4, 1) := by decide +kernel
theorem dX3_readNumber_37 : decode cX3_readNumber 37 = .ok (.if_icmp .ge 54, 3) := by decide +kernel
theorem dX3_readNumber_40 : decode cX3_readNumber 40 = .ok (.iload_n 1, 1) := by decide +kernel
theorem dX3_readNumber_41 : decode cX3_readNumber 41 = .ok (.ifCond .le 50, 3) := by decide +kernel
theorem dX3_readNumber_44 : decode cX3_readNumber 44 = .ok (.aload_n 0, 1) := by decide +kernel
theorem dX3_readNumber_45 : decode cX3_readNumber 45 = .ok (.getfield 9, 3) := by decide +kernel
theorem dX3_readNumber_48 : decode cX3_readNumber 48 = .ok (.aload_n 0, 1) := by decide +kernel
theorem dX3_readNumber_49 : decode cX3_readNumber 49 = .ok (.getfield 22, 3) := by decide +kernel
theorem dX3_readNumber_52 : decode cX3_readNumber 52 = .ok (.invokevirtual 71, 3) := by decide +kernel
theorem dX3_readNumber_55 : decode cX3_readNumber 55 = .ok (.ifCond .lt 36, 3) := by decide +kernel
theorem dX3_readNumber_58 : decode cX3_readNumber 58 = .ok (.iload_n 1, 1) := by decide +kernel
theorem dX3_readNumber_59 : decode cX3_readNumber 59 = .ok (.bipush 10, 2) := by decide +kernel
theorem dX3_readNumber_61 : decode cX3_readNumber 61 = .ok (.imul, 1) := by decide +kernel
theorem dX3_readNumber_62 : decode cX3_readNumber 62 = .ok (.aload_n 0, 1) := by decide +kernel
theorem dX3_readNumber_63 : decode cX3_readNumber 63 = .ok (.getfield 9, 3) := by decide +kernel
theorem dX3_readNumber_66 : decode cX3_readNumber 66 = .ok (.aload_n 0, 1) := by decide +kernel
theorem dX3_readNumber_67 : decode cX3_readNumber 67 = .ok (.getfield 22, 3) := by decide +kernel
theorem dX3_readNumber_70 : decode cX3_readNumber 70 = .ok (.invokevirtual 71, 3) := by decide +kernel
theorem dX3_readNumber_73 : decode cX3_readNumber 73 = .ok (.iadd, 1) := by decide +kernel
theorem dX3_readNumber_74 : decode cX3_readNumber 74 = .ok (.istore_n 1, 1) := by decide +kernel
theorem dX3_readNumber_75 : decode cX3_readNumber 75 = .ok (.aload_n 0, 1) := by decide +kernel
theorem dX3_readNumber_76 : decode cX3_readNumber 76 = .ok (.dup, 1) := by decide +kernel
theorem dX3_readNumber_77 : decode cX3_readNumber 77 = .ok (.getfield 22, 3) := by decide +kernel
theorem dX3_readNumber_80 : decode cX3_readNumber 80 = .ok (.iconst 1, 1) := by decide +kernel
theorem dX3_readNumber_81 : decode cX3_readNumber 81 = .ok (.iadd, 1) := by decide +kernel
theorem dX3_readNumber_82 : decode cX3_readNumber 82 = .ok (.putfield 22, 3) := by decide +kernel
theorem dX3_readNumber_85 : decode cX3_readNumber 85 = .ok (.iinc 2 1, 3) := by decide +kernel
theorem dX3_readNumber_88 : decode cX3_readNumber 88 = .ok (.goto (-53), 3) := by decide +kernel
theorem dX3_readNumber_91 : decode cX3_readNumber 91 = .ok (.iload_n 1, 1) := by decide +kernel
theorem dX3_readNumber_92 : decode cX3_readNumber 92 = .ok (.ireturn, 1) := by decide +kernel
set_option maxRecDepth 20000 in
theorem ggX3_step_X5_isAt : GoodIn wsX3_step wsX5_isAt := goodIn_r _ [8, 9, 10, 15, 16] (by decide +kernel) (by decide +kernel)
set_option maxRecDepth 20000 in
theorem gX3_step_X5_isAt : GoodIn wsX3_step (wsV RX3 67 RX5 yX5_isAt wsX5_isAt) := goodIn_app (goodIn_of _ (by decide +kernel)) ggX3_step_X5_isAt
theorem dX3_step_0 : decode cX3_step 0 = .ok (.aload_n 0, 1) := by decide +kernel
theorem dX3_step_1 : decode cX3_step 1 = .ok (.getfield 9, 3) := by decide +kernel
theorem dX3_step_4 : decode cX3_step 4 = .ok (.aload_n 0, 1) := by decide +kernel
theorem dX3_step_5 : decode cX3_step 5 = .ok (.getfield 22, 3) := by decide +kernel
theorem dX3_step_8 : decode cX3_step 8 = .ok (.iload_n 1, 1) := by decide +kernel
theorem dX3_step_9 : decode cX3_step 9 = .ok (.invokevirtual 67, 3) := by decide +kernel
theorem dX3_step_12 : decode cX3_step 12 = .ok (.ifCond .ne 11, 3) := by decide +kernel
theorem dX3_step_15 : decode cX3_step 15 = .ok (.aload_n 0, 1) := by decide +kernel
theorem dX3_step_16 : decode cX3_step 16 = .ok (.iconst 1, 1) := by decide +kernel
theorem dX3_step_17 : decode cX3_step 17 = .ok (.putfield 26, 3) := by decide +kernel
theorem dX3_step_20 : decode cX3_step 20 = .ok (.goto 25, 3) := by decide +kernel
theorem dX3_step_23 : decode cX3_step 23 = .ok (.iload_n 2, 1) := by decide +kernel
theorem dX3_step_24 : decode cX3_step 24 = .ok (.ifCond .ne 11, 3) := by decide +kernel
theorem dX3_step_27 : decode cX3_step 27 = .ok (.aload_n 0, 1) := by decide +kernel
theorem dX3_step_28 : decode cX3_step 28 = .ok (.iconst 2, 1) := by decide +kernel
theorem dX3_step_29 : decode cX3_step 29 = .ok (.putfield 26, 3) := by decide +kernel
theorem dX3_step_32 : decode cX3_step 32 = .ok (.goto 13, 3) := by decide +kernel
theorem dX3_step_35 : decode cX3_step 35 = .ok (.aload_n 0, 1) := by decide +kernel
theorem dX3_step_36 : decode cX3_step 36 = .ok (.dup, 1) := by decide +kernel
theorem dX3_step_37 : decode cX3_step 37 = .ok (.getfield 22, 3) := by decide +kernel
theorem dX3_step_40 : decode cX3_step 40 = .ok (.iconst 1, 1) := by decide +kernel
theorem dX3_step_41 : decode cX3_step 41 = .ok (.iadd, 1) := by decide +kernel
theorem dX3_step_42 : decode cX3_step 42 = .ok (.putfield 22, 3) := by decide +kernel
theorem dX3_step_45 : decode cX3_step 45 = .ok (.return_, 1) := by decide +kernel
end
section
/-! THE READING OF A TEXT, told by its signs T and its length len; p a place, e a reason -/
abbrev isDg (T : Int → Int) (len p : Int) : Prop := p < len ∧ 48 ≤ T p ∧ T p ≤ 57
abbrev isAc (T : Int → Int) (len p c : Int) : Prop := p < len ∧ T p = c
def nuG (T : Int → Int) (len : Int) : Nat → Int → Int → Int × Int
  | 0, v, p => (v, p)
  | k + 1, v, p => if 0 < v ∧ isDg T len p then nuG T len k (v * 10 + (T p - 48)) (p + 1) else (v, p)
theorem nuG_stop {T : Int → Int} {len d v p : Int} (h : 4 ≤ d ∨ ¬ (0 < v ∧ isDg T len p)) : nuG T len (4 - d).toNat v p = (v, p) := by
  rcases h with h | h
  · rw [show (4 - d).toNat = 0 by omega]; rfl
  · cases (4 - d).toNat with
    | zero => rfl
    | succ k => unfold nuG; rw [if_neg h]
theorem nuG_step {T : Int → Int} {len d v p : Int} (hd : d < 4) (h : 0 < v ∧ isDg T len p) : nuG T len (4 - d).toNat v p = nuG T len (4 - (d + 1)).toNat (v * 10 + (T p - 48)) (p + 1) := by
  rw [show (4 - d).toNat = (4 - (d + 1)).toNat + 1 by omega]
  rw [nuG]
  rw [if_pos h]
/-- a number's value, its end, its reason -/
def nV (T : Int → Int) (len p : Int) : Int := if isDg T len p then (nuG T len 3 (T p - 48) (p + 1)).1 else 0
def nP (T : Int → Int) (len p : Int) : Int := if isDg T len p then (nuG T len 3 (T p - 48) (p + 1)).2 else p
def nR (T : Int → Int) (len p : Int) : Int := if isDg T len p then 0 else 1
/-- an entry's -/
def enV (T : Int → Int) (len p : Int) : Int := if isAc T len p 120 then -1 else nV T len p
def enP (T : Int → Int) (len p : Int) : Int := if isAc T len p 120 then p + 1 else nP T len p
def enR (T : Int → Int) (len p : Int) : Int := if isAc T len p 120 then 0 else nR T len p
/-- a sign that is due; fits: it may stand here -/
def stP (T : Int → Int) (len p c f : Int) : Int := if isAc T len p c ∧ f ≠ 0 then p + 1 else p
def stR (T : Int → Int) (len p c f : Int) : Int := if isAc T len p c then (if f = 0 then 2 else 0) else 1
theorem nuG_b {T : Int → Int} {len : Int} : ∀ (k : Nat) (v p b : Int), 0 ≤ v → v ≤ b → p ≤ len → (0 ≤ (nuG T len k v p).1 ∧ (nuG T len k v p).1 ≤ (b + 1) * 10 ^ k - 1) ∧ p ≤ (nuG T len k v p).2 ∧ (nuG T len k v p).2 ≤ len := by
  intro k
  induction k with
  | zero => intro v p b h0 h1 h2; show (0 ≤ v ∧ v ≤ (b + 1) * 10 ^ 0 - 1) ∧ p ≤ p ∧ p ≤ len; omega
  | succ k ih =>
    intro v p b h0 h1 h2
    rw [nuG]
    by_cases hc : 0 < v ∧ isDg T len p
    · rw [if_pos hc]
      have h := ih (v * 10 + (T p - 48)) (p + 1) (b * 10 + 9) (by omega) (by omega) (by omega)
      have e : (b * 10 + 9 + 1) * 10 ^ k = (b + 1) * 10 ^ (k + 1) := by
        rw [Int.pow_succ]
        rw [show b * 10 + 9 + 1 = (b + 1) * 10 by omega, Int.mul_assoc, Int.mul_comm 10]
      rw [e] at h
      omega
    · rw [if_neg hc]
      have h3 : (1 : Int) ≤ 10 ^ (k + 1) := by
        have h5 : (0 : Int) < 10 ^ (k + 1) := Int.pow_pos (by omega)
        omega
      have h4 : (b + 1) * 1 ≤ (b + 1) * 10 ^ (k + 1) := Int.mul_le_mul_of_nonneg_left h3 (by omega)
      show (0 ≤ v ∧ v ≤ _) ∧ p ≤ p ∧ p ≤ len
      omega
theorem nV_b {T : Int → Int} {len p : Int} : 0 ≤ nV T len p ∧ nV T len p ≤ 9999 := by
  unfold nV
  by_cases h : isDg T len p
  · rw [if_pos h]
    have := (nuG_b (T := T) (len := len) 3 (T p - 48) (p + 1) 9 (by omega) (by omega) (by omega)).1
    omega
  · rw [if_neg h]; omega
theorem nP_b {T : Int → Int} {len p : Int} (hp : p ≤ len) : p ≤ nP T len p ∧ nP T len p ≤ len := by
  unfold nP
  by_cases h : isDg T len p
  · rw [if_pos h]
    have := (nuG_b (T := T) (len := len) 3 (T p - 48) (p + 1) 9 (by omega) (by omega) (by omega)).2
    omega
  · rw [if_neg h]; omega
theorem nR_b {T : Int → Int} {len p : Int} : 0 ≤ nR T len p ∧ nR T len p ≤ 1 := by
  unfold nR
  by_cases h : isDg T len p
  · rw [if_pos h]; omega
  · rw [if_neg h]; omega
theorem enV_b {T : Int → Int} {len p : Int} : -1 ≤ enV T len p ∧ enV T len p ≤ 9999 := by
  have := nV_b (T := T) (len := len) (p := p)
  unfold enV
  by_cases h : isAc T len p 120
  · rw [if_pos h]; omega
  · rw [if_neg h]; omega
theorem enP_b {T : Int → Int} {len p : Int} (hp : p ≤ len) : p ≤ enP T len p ∧ enP T len p ≤ len := by
  have := nP_b (T := T) hp
  unfold enP
  by_cases h : isAc T len p 120
  · rw [if_pos h]; omega
  · rw [if_neg h]; omega
theorem enR_b {T : Int → Int} {len p : Int} : 0 ≤ enR T len p ∧ enR T len p ≤ 1 := by
  have := nR_b (T := T) (len := len) (p := p)
  unfold enR
  by_cases h : isAc T len p 120
  · rw [if_pos h]; omega
  · rw [if_neg h]; omega
theorem stP_b {T : Int → Int} {len p c f : Int} (hp : p ≤ len) : p ≤ stP T len p c f ∧ stP T len p c f ≤ len := by
  unfold stP
  by_cases h : isAc T len p c ∧ f ≠ 0
  · rw [if_pos h]; omega
  · rw [if_neg h]; omega
theorem stR_b {T : Int → Int} {len p c f : Int} : 0 ≤ stR T len p c f ∧ stR T len p c f ≤ 2 := by
  unfold stR
  by_cases h : isAc T len p c
  · rw [if_pos h]
    by_cases h2 : f = 0
    · rw [if_pos h2]; omega
    · rw [if_neg h2]; omega
  · rw [if_neg h]; omega
/-- the entries of a row, from the n-th at the place p on: how many there are then, the place, the reason -/
def esG (T : Int → Int) (len most : Int) : Nat → Int → Int → Int × Int × Int
  | 0, n, p => (n, p, 0)
  | k + 1, n, p => if enR T len p ≠ 0 then (n + 1, enP T len p, enR T len p)
    else if isAc T len (enP T len p) 44 then (if n + 1 < most then esG T len most k (n + 1) (enP T len p + 1) else (n + 1, enP T len p, 2))
    else (n + 1, enP T len p, 0)
theorem esG_s {T : Int → Int} {len most n p : Int} (h : n < most) : esG T len most (most - n).toNat n p = if enR T len p ≠ 0 then (n + 1, enP T len p, enR T len p)
    else if isAc T len (enP T len p) 44 then (if n + 1 < most then esG T len most (most - (n + 1)).toNat (n + 1) (enP T len p + 1) else (n + 1, enP T len p, 2))
    else (n + 1, enP T len p, 0) := by
  rw [show (most - n).toNat = (most - (n + 1)).toNat + 1 by omega]
  rw [esG]
def esR (T : Int → Int) (len most p : Int) : Int × Int × Int := esG T len most most.toNat 0 p
/-- the place of the k-th entry -/
def plS (T : Int → Int) (len p k : Int) : Int := FI (fun a _ => enP T len a + 1) p k
theorem plS_s {T : Int → Int} {len p k : Int} (h : 0 ≤ k) : plS T len p (k + 1) = enP T len (plS T len p k) + 1 := FI_s h
theorem esG_b {T : Int → Int} {len most : Int} : ∀ (k : Nat) (n p : Int), n + k = most → 0 < k → p ≤ len → (n < (esG T len most k n p).1 ∧ (esG T len most k n p).1 ≤ most) ∧ (p ≤ (esG T len most k n p).2.1 ∧ (esG T len most k n p).2.1 ≤ len) ∧ 0 ≤ (esG T len most k n p).2.2 ∧ (esG T len most k n p).2.2 ≤ 2 := by
  intro k
  induction k with
  | zero => intro n p _ h _; omega
  | succ k ih =>
    intro n p hk _ hp
    have h1 := enP_b (T := T) hp
    have h2 := enR_b (T := T) (len := len) (p := p)
    rw [esG]
    by_cases c1 : enR T len p ≠ 0
    · rw [if_pos c1]; show (n < n + 1 ∧ n + 1 ≤ most) ∧ (p ≤ enP T len p ∧ enP T len p ≤ len) ∧ 0 ≤ enR T len p ∧ enR T len p ≤ 2; omega
    · rw [if_neg c1]
      by_cases c2 : isAc T len (enP T len p) 44
      · rw [if_pos c2]
        by_cases c3 : n + 1 < most
        · rw [if_pos c3]
          have h3 := ih (n + 1) (enP T len p + 1) (by omega) (by omega) (by omega)
          omega
        · rw [if_neg c3]; show (n < n + 1 ∧ n + 1 ≤ most) ∧ (p ≤ enP T len p ∧ enP T len p ≤ len) ∧ 0 ≤ (2 : Int) ∧ (2 : Int) ≤ 2; omega
      · rw [if_neg c2]; show (n < n + 1 ∧ n + 1 ≤ most) ∧ (p ≤ enP T len p ∧ enP T len p ≤ len) ∧ 0 ≤ (0 : Int) ∧ (0 : Int) ≤ 2; omega
theorem esR_b {T : Int → Int} {len most p : Int} (hm : 1 ≤ most) (hp : p ≤ len) : (1 ≤ (esR T len most p).1 ∧ (esR T len most p).1 ≤ most) ∧ (p ≤ (esR T len most p).2.1 ∧ (esR T len most p).2.1 ≤ len) ∧ 0 ≤ (esR T len most p).2.2 ∧ (esR T len most p).2.2 ≤ 2 := by
  have := esG_b (T := T) (len := len) (most := most) most.toNat 0 p (by omega) (by omega) hp
  unfold esR
  omega
/-- a row: r its number, w how many entries the first one had -/
def rMo (r w : Int) : Int := if r = 0 then 7 else w
def rFi (r w n : Int) : Int := if r = 0 ∨ n = w then 1 else 0
/-- the place behind the row's "/" and its reason -/
def rsP (T : Int → Int) (len r w p : Int) : Int := stP T len (esR T len (rMo r w) p).2.1 47 (rFi r w (esR T len (rMo r w) p).1)
def rsR (T : Int → Int) (len r w p : Int) : Int := stR T len (esR T len (rMo r w) p).2.1 47 (rFi r w (esR T len (rMo r w) p).1)
def roP (T : Int → Int) (len r w p : Int) : Int := if (esR T len (rMo r w) p).2.2 ≠ 0 then (esR T len (rMo r w) p).2.1 else if rsR T len r w p ≠ 0 then rsP T len r w p else nP T len (rsP T len r w p)
def roR (T : Int → Int) (len r w p : Int) : Int := if (esR T len (rMo r w) p).2.2 ≠ 0 then (esR T len (rMo r w) p).2.2 else if rsR T len r w p ≠ 0 then rsR T len r w p else nR T len (rsP T len r w p)
def roN (T : Int → Int) (len r w p : Int) : Int := (esR T len (rMo r w) p).1
def roW (T : Int → Int) (len r w p : Int) : Int := if r = 0 then roN T len r w p else w
theorem rMo_b {r w : Int} (hw : r = 0 ∨ 1 ≤ w) : 1 ≤ rMo r w := by
  unfold rMo
  by_cases h : r = 0
  · rw [if_pos h]; omega
  · rw [if_neg h]; omega
theorem roP_b {T : Int → Int} {len r w p : Int} (hw : r = 0 ∨ 1 ≤ w) (hp : p ≤ len) : p ≤ roP T len r w p ∧ roP T len r w p ≤ len := by
  have h1 := esR_b (T := T) (len := len) (most := rMo r w) (p := p) (rMo_b hw) hp
  have h2 := stP_b (T := T) (c := 47) (f := rFi r w (esR T len (rMo r w) p).1) h1.2.1.2
  have h3 := nP_b (T := T) h2.2
  unfold roP rsP
  by_cases c1 : (esR T len (rMo r w) p).2.2 ≠ 0
  · rw [if_pos c1]; omega
  · rw [if_neg c1]
    by_cases c2 : rsR T len r w p ≠ 0
    · rw [if_pos c2]; omega
    · rw [if_neg c2]; omega
/-- a text ok -/
def TXK (σ : St) : Prop := (0 ≤ σ 8 0 ∧ σ 8 0 ≤ 80) ∧ ∀ k, 0 ≤ k → k < 80 → 0 ≤ σ 9 k ∧ σ 9 k < 65536
def F10 (σ σ' : St) : Prop := ∀ q k, ¬ (q = 10 ∧ k = 0) → σ' q k = σ q k
def rdU (σ : St) (p e : Int) : St := up (up σ 10 0 p) 10 1 e
theorem rdU_at (σ : St) (p e : Int) : rdU σ p e 10 0 = p ∧ rdU σ p e 10 1 = e ∧ ∀ q k, ¬ (q = 10 ∧ (k = 0 ∨ k = 1)) → rdU σ p e q k = σ q k := by
  refine ⟨?_, ?_, fun q k h => ?_⟩
  · simp [rdU, up]
  · simp [rdU, up]
  · unfold rdU up
    rw [if_neg (by omega), if_neg (by omega)]
theorem rdU_eq {σ σ' : St} {p e : Int} (h1 : σ' 10 0 = p) (h2 : σ' 10 1 = e) (h : ∀ q k, ¬ (q = 10 ∧ (k = 0 ∨ k = 1)) → σ' q k = σ q k) : σ' = rdU σ p e := by
  funext q k
  obtain ⟨a1, a2, a3⟩ := rdU_at σ p e
  by_cases c1 : q = 10 ∧ k = 0
  · rw [c1.1, c1.2, h1, a1]
  · by_cases c2 : q = 10 ∧ k = 1
    · rw [c2.1, c2.2, h2, a2]
    · rw [h q k (by omega), a3 q k (by omega)]
theorem TXK.of {σ σ' : St} (h : TXK σ) (h8 : σ' 8 0 = σ 8 0) (h9 : ∀ k, σ' 9 k = σ 9 k) : TXK σ' := ⟨by rw [h8]; exact h.1, fun k h1 h2 => by rw [h9]; exact h.2 k h1 h2⟩
set_option maxHeartbeats 4000000 in
set_option maxRecDepth 100000 in
theorem k_X3_readNumber (E0 : EV) {ad : Int → Nat} {σ : St} (hTX : TXK σ) (hp : 0 ≤ σ 10 0 ∧ σ 10 0 ≤ σ 8 0) (he : σ 10 1 = 0) : MGE E0 yX3_readNumber wsX3_readNumber 1 21 ad σ [.ref (ad 10)] (PF (nV (σ 9) (σ 8 0) (σ 10 0)) (rdU σ (nP (σ 9) (σ 8 0) (σ 10 0)) (nR (σ 9) (σ 8 0) (σ 10 0)))) := by
  refine MGE.of (cc := cX3_readNumber) (maxL := 3) (ret := (some .int)) (own := RX3) [some (.ref (ad 10)), none, none] (by decide +kernel) rfl rfl (Nat.le_of_ble_eq_true rfl) rfl rfl (fun E X hr => ?_)
  have i3 : ∀ w ∈ wsX30, w ∈ wsX3_readNumber := by decide +kernel
  refine g_rg (fun hR0 => ?_)
  have h8 := hTX.1
  have hd0 := dA_09 σ (σ 10 0)
  refine g_aload0 X dX3_readNumber_0 ?_
  refine gf_3_text X i3 (by decide +kernel) dX3_readNumber_1 ?_
  refine g_aload0 X dX3_readNumber_4 ?_
  refine gf_3_place X i3 (by decide +kernel) dX3_readNumber_5 ?_
  refine g_F1 X (k_X5_digitAt E hTX.1 (by omega) hTX.2) gX3_readNumber_X5_digitAt rfl (by decide +kernel) (by decide) ob_8 (Nat.le_of_ble_eq_true rfl) dX3_readNumber_8 (fun hz8 => ?_)
  refine g_rg (fun hR8 => ?_)
  refine g_istore1 X dX3_readNumber_11 (by decide) (by first | exact Or.inl rfl | exact Or.inr ⟨_, rfl, rfl⟩) ?_
  refine g_iload1 X dX3_readNumber_12 ?_
  refine g_if_ge (tgt := 23) X (by first | exact hR8 _ _ | exact hR0 _ _ | assumption | (unfold InR; omega)) dX3_readNumber_13 (by decide) (fun h13 => ?_) (fun h13 => ?_)
  · skip
    refine g_aload0 X dX3_readNumber_23 ?_
    refine g_dup X dX3_readNumber_24 rfl ?_
    refine gf_3_place X i3 (by decide +kernel) dX3_readNumber_25 ?_
    refine g_iconst X dX3_readNumber_28 ?_
    refine g_iadd X dX3_readNumber_29 ?_
    refine gp_3_place X i3 (by decide +kernel) (by first | exact hR8 _ _ | exact hR0 _ _ | assumption | (unfold InR; omega)) dX3_readNumber_30 ?_
    refine g_rg (fun hR30 => ?_)
    have g1 : dA σ (σ 10 0) = σ 9 (σ 10 0) - 48 := by omega
    refine g_iconst X dX3_readNumber_33 ?_
    refine g_istore2 X dX3_readNumber_34 (by decide) (by first | exact Or.inl rfl | exact Or.inr ⟨_, rfl, rfl⟩) ?_
    have L35 : ∀ (n35 : Nat) (d v : Int) (σ1 : St), (4 - d).toNat < n35 → (1 ≤ d ∧ d ≤ 4) → (0 ≤ v ∧ v ≤ 9999 ∧ (d ≤ 3 → v ≤ 999) ∧ (d ≤ 2 → v ≤ 99) ∧ (d ≤ 1 → v ≤ 9)) → (F10 σ σ1) → (0 ≤ σ1 10 0 ∧ σ1 10 0 ≤ σ 8 0) → (nuG (σ 9) (σ 8 0) 3 (σ 9 (σ 10 0) - 48) (σ 10 0 + 1) = nuG (σ 9) (σ 8 0) (4 - d).toNat v (σ1 10 0)) → WG E ad 3 σ1 35 [some (.ref (ad 10)), some (.int (iI v)), some (.int (iI d))] [] := by
      intro n35
      induction n35 with
      | zero => intro d v σ1 hn; exact absurd hn (Nat.not_lt_zero _)
      | succ n35 ih35 =>
        intro d v σ1 hn35 hd hv hF hp1 hg
        refine g_rg (fun hRL35 => ?_)
        have e8 : σ1 8 0 = σ 8 0 := hF _ _ (by omega)
        have e9 : ∀ k, σ1 9 k = σ 9 k := fun k => hF _ _ (by omega)
        have hTX1 := hTX.of e8 e9
        have hd1 := dA_09 σ1 (σ1 10 0)
        rw [e8, e9] at hd1
        refine g_iload2 X dX3_readNumber_35 ?_
        refine g_iconst X dX3_readNumber_36 ?_
        refine g_icmp_ge (tgt := 91) X (by first | exact hRL35 _ _ | exact hR30 _ _ | exact hR8 _ _ | exact hR0 _ _ | assumption | (unfold InR; omega)) (by first | exact hRL35 _ _ | exact hR30 _ _ | exact hR8 _ _ | exact hR0 _ _ | assumption | (unfold InR; omega)) dX3_readNumber_37 (by decide) (fun h37 => ?_) (fun h37 => ?_)
        · skip
          refine g_iload1 X dX3_readNumber_91 ?_
          exact g_iretF X hr (by first | exact hRL35 _ _ | exact hR30 _ _ | exact hR8 _ _ | exact hR0 _ _ | assumption | (unfold InR; omega)) (by
    have hst := nuG_stop (T := σ 9) (len := σ 8 0) (d := d) (v := v) (p := σ1 10 0) (by omega)
    rw [hst] at hg
    have hdg : isDg (σ 9) (σ 8 0) (σ 10 0) := ⟨by omega, by omega, by omega⟩
    exact ⟨by unfold nV; rw [if_pos hdg, hg], rdU_eq (by unfold nP; rw [if_pos hdg, hg]) (by unfold nR; rw [if_pos hdg, hF _ _ (by omega)]; exact he) (fun q k h => hF q k (by omega))⟩) dX3_readNumber_92
        · skip
          refine g_iload1 X dX3_readNumber_40 ?_
          refine g_if_le (tgt := 91) X (by first | exact hRL35 _ _ | exact hR30 _ _ | exact hR8 _ _ | exact hR0 _ _ | assumption | (unfold InR; omega)) dX3_readNumber_41 (by decide) (fun h41 => ?_) (fun h41 => ?_)
          · skip
            refine g_iload1 X dX3_readNumber_91 ?_
            exact g_iretF X hr (by first | exact hRL35 _ _ | exact hR30 _ _ | exact hR8 _ _ | exact hR0 _ _ | assumption | (unfold InR; omega)) (by
    have hst := nuG_stop (T := σ 9) (len := σ 8 0) (d := d) (v := v) (p := σ1 10 0) (by omega)
    rw [hst] at hg
    have hdg : isDg (σ 9) (σ 8 0) (σ 10 0) := ⟨by omega, by omega, by omega⟩
    exact ⟨by unfold nV; rw [if_pos hdg, hg], rdU_eq (by unfold nP; rw [if_pos hdg, hg]) (by unfold nR; rw [if_pos hdg, hF _ _ (by omega)]; exact he) (fun q k h => hF q k (by omega))⟩) dX3_readNumber_92
          · skip
            refine g_aload0 X dX3_readNumber_44 ?_
            refine gf_3_text X i3 (by decide +kernel) dX3_readNumber_45 ?_
            refine g_aload0 X dX3_readNumber_48 ?_
            refine gf_3_place X i3 (by decide +kernel) dX3_readNumber_49 ?_
            refine g_F1 X (k_X5_digitAt E hTX1.1 (by omega) hTX1.2) gX3_readNumber_X5_digitAt rfl (by decide +kernel) (by decide) ob_8 (Nat.le_of_ble_eq_true rfl) dX3_readNumber_52 (fun hz52 => ?_)
            refine g_rg (fun hR52 => ?_)
            refine g_if_lt (tgt := 91) X (by first | exact hR52 _ _ | exact hRL35 _ _ | exact hR30 _ _ | exact hR8 _ _ | exact hR0 _ _ | assumption | (unfold InR; omega)) dX3_readNumber_55 (by decide) (fun h55 => ?_) (fun h55 => ?_)
            · skip
              refine g_iload1 X dX3_readNumber_91 ?_
              exact g_iretF X hr (by first | exact hR52 _ _ | exact hRL35 _ _ | exact hR30 _ _ | exact hR8 _ _ | exact hR0 _ _ | assumption | (unfold InR; omega)) (by
    have hst := nuG_stop (T := σ 9) (len := σ 8 0) (d := d) (v := v) (p := σ1 10 0) (by omega)
    rw [hst] at hg
    have hdg : isDg (σ 9) (σ 8 0) (σ 10 0) := ⟨by omega, by omega, by omega⟩
    exact ⟨by unfold nV; rw [if_pos hdg, hg], rdU_eq (by unfold nP; rw [if_pos hdg, hg]) (by unfold nR; rw [if_pos hdg, hF _ _ (by omega)]; exact he) (fun q k h => hF q k (by omega))⟩) dX3_readNumber_92
            · skip
              have g2 : dA σ1 (σ1 10 0) = σ 9 (σ1 10 0) - 48 := by omega
              refine g_iload1 X dX3_readNumber_58 ?_
              refine g_bipush X dX3_readNumber_59 (by decide +kernel) ?_
              refine g_imul X dX3_readNumber_61 ?_
              refine g_aload0 X dX3_readNumber_62 ?_
              refine gf_3_text X i3 (by decide +kernel) dX3_readNumber_63 ?_
              refine g_aload0 X dX3_readNumber_66 ?_
              refine gf_3_place X i3 (by decide +kernel) dX3_readNumber_67 ?_
              refine g_F1 X (k_X5_digitAt E hTX1.1 (by omega) hTX1.2) gX3_readNumber_X5_digitAt rfl (by decide +kernel) (by decide) ob_8 (Nat.le_of_ble_eq_true rfl) dX3_readNumber_70 (fun hz70 => ?_)
              refine g_rg (fun hR70 => ?_)
              refine g_iadd X dX3_readNumber_73 ?_
              refine g_istore1 X dX3_readNumber_74 (by decide) (by first | exact Or.inl rfl | exact Or.inr ⟨_, rfl, rfl⟩) ?_
              refine g_aload0 X dX3_readNumber_75 ?_
              refine g_dup X dX3_readNumber_76 rfl ?_
              refine gf_3_place X i3 (by decide +kernel) dX3_readNumber_77 ?_
              refine g_iconst X dX3_readNumber_80 ?_
              refine g_iadd X dX3_readNumber_81 ?_
              refine gp_3_place X i3 (by decide +kernel) (by first | exact hR70 _ _ | exact hR52 _ _ | exact hRL35 _ _ | exact hR30 _ _ | exact hR8 _ _ | exact hR0 _ _ | assumption | (unfold InR; omega)) dX3_readNumber_82 ?_
              refine g_rg (fun hR82 => ?_)
              refine g_iinc2 X dX3_readNumber_85 (by decide) (by first | exact Or.inl rfl | exact Or.inr ⟨_, rfl, rfl⟩) ?_
              refine g_goto (tgt := 35) X dX3_readNumber_88 (by decide) ?_
              refine ih35 _ _ _ (by omega) ?_ ?_ ?_ ?_ ?_
              · omega
              · rw [g2]
                omega
              · intro q k h
                unfold up
                rw [if_neg h]
                exact hF q k h
              · unfold up
                rw [if_pos ⟨rfl, rfl⟩]
                omega
              · rw [hg, nuG_step (by omega) ⟨by omega, by omega, by omega, by omega⟩]
                unfold up
                rw [if_pos ⟨rfl, rfl⟩, g2]
    refine L35 _ _ _ _ (Nat.lt_succ_self _) ?_ ?_ ?_ ?_ ?_
    · omega
    · rw [g1]
      omega
    · intro q k h
      unfold up
      rw [if_neg h]
    · unfold up
      rw [if_pos ⟨rfl, rfl⟩]
      omega
    · unfold up
      rw [if_pos ⟨rfl, rfl⟩, g1]
      rfl
  · skip
    refine g_aload0 X dX3_readNumber_16 ?_
    refine g_iconst X dX3_readNumber_17 ?_
    refine gp_3_reason X i3 (by decide +kernel) (by first | exact hR8 _ _ | exact hR0 _ _ | assumption | (unfold InR; omega)) dX3_readNumber_18 ?_
    refine g_rg (fun hR18 => ?_)
    refine g_iconst X dX3_readNumber_21 ?_
    exact g_iretF X hr (by first | exact hR18 _ _ | exact hR8 _ _ | exact hR0 _ _ | assumption | (unfold InR; omega)) ⟨by unfold nV; rw [if_neg (by omega)], rdU_eq (by unfold up; rw [if_neg (by omega)]; unfold nP; rw [if_neg (by omega)]) (by unfold up; rw [if_pos ⟨rfl, rfl⟩]; unfold nR; rw [if_neg (by omega)]) (fun q k h => by unfold up; rw [if_neg (by omega)])⟩ dX3_readNumber_22

set_option maxHeartbeats 4000000 in
set_option maxRecDepth 100000 in
theorem k_X3_readEntry (E0 : EV) {ad : Int → Nat} {σ : St} (hTX : TXK σ) (hp : 0 ≤ σ 10 0 ∧ σ 10 0 ≤ σ 8 0) (he : σ 10 1 = 0) : MGE E0 yX3_readEntry wsX3_readEntry 2 43 ad σ [.ref (ad 10)] (PF (enV (σ 9) (σ 8 0) (σ 10 0)) (rdU σ (enP (σ 9) (σ 8 0) (σ 10 0)) (enR (σ 9) (σ 8 0) (σ 10 0)))) := by
  refine MGE.of (cc := cX3_readEntry) (maxL := 1) (ret := (some .int)) (own := RX3) [some (.ref (ad 10))] (by decide +kernel) rfl rfl (Nat.le_of_ble_eq_true rfl) rfl rfl (fun E X hr => ?_)
  have i3 : ∀ w ∈ wsX30, w ∈ wsX3_readEntry := by decide +kernel
  refine g_rg (fun hR0 => ?_)
  have h8 := hTX.1
  have hi0 := iA_01 σ (σ 10 0) 120
  refine g_aload0 X dX3_readEntry_0 ?_
  refine gf_3_text X i3 (by decide +kernel) dX3_readEntry_1 ?_
  refine g_aload0 X dX3_readEntry_4 ?_
  refine gf_3_place X i3 (by decide +kernel) dX3_readEntry_5 ?_
  refine g_bipush X dX3_readEntry_8 (by decide +kernel) ?_
  refine g_F2 X (k_X5_isAt E hTX.1 (by omega) (by omega)) gX3_readEntry_X5_isAt rfl (by decide +kernel) (by decide) ob_8 (Nat.le_of_ble_eq_true rfl) dX3_readEntry_10 (fun hz10 => ?_)
  refine g_rg (fun hR10 => ?_)
  refine g_if_eq (tgt := 28) X (by first | exact hR10 _ _ | exact hR0 _ _ | assumption | (unfold InR; omega)) dX3_readEntry_13 (by decide) (fun h13 => ?_) (fun h13 => ?_)
  · skip
    refine g_aload0 X dX3_readEntry_28 ?_
    refine g_F0 X (k_X3_readNumber E hTX (by omega) (by omega)) gX3_readEntry_X3_readNumber rfl (by decide +kernel) (by decide) ob_10 (Nat.le_of_ble_eq_true rfl) dX3_readEntry_29 (fun hz29 => ?_)
    refine g_rg (fun hR29 => ?_)
    exact g_iretF X hr (by first | exact hR29 _ _ | exact hR10 _ _ | exact hR0 _ _ | assumption | (unfold InR; omega)) ⟨by unfold enV; rw [if_neg (by omega)], by unfold enP enR; rw [if_neg (by omega), if_neg (by omega)]⟩ dX3_readEntry_32
  · skip
    refine g_aload0 X dX3_readEntry_16 ?_
    refine g_dup X dX3_readEntry_17 rfl ?_
    refine gf_3_place X i3 (by decide +kernel) dX3_readEntry_18 ?_
    refine g_iconst X dX3_readEntry_21 ?_
    refine g_iadd X dX3_readEntry_22 ?_
    refine gp_3_place X i3 (by decide +kernel) (by first | exact hR10 _ _ | exact hR0 _ _ | assumption | (unfold InR; omega)) dX3_readEntry_23 ?_
    refine g_rg (fun hR23 => ?_)
    refine g_iconst X dX3_readEntry_26 ?_
    exact g_iretF X hr (by first | exact hR23 _ _ | exact hR10 _ _ | exact hR0 _ _ | assumption | (unfold InR; omega)) ⟨by unfold enV; rw [if_pos (by omega)], rdU_eq (by unfold up; rw [if_pos ⟨rfl, rfl⟩]; unfold enP; rw [if_pos (by omega)]) (by unfold up; rw [if_neg (by omega)]; unfold enR; rw [if_pos (by omega)]; exact he) (fun q k h => by unfold up; rw [if_neg (by omega)])⟩ dX3_readEntry_27

set_option maxHeartbeats 4000000 in
set_option maxRecDepth 100000 in
theorem k_X3_step (E0 : EV) {ad : Int → Nat} {σ : St} {c f : Int} (hTX : TXK σ) (hp : 0 ≤ σ 10 0 ∧ σ 10 0 ≤ σ 8 0) (he : σ 10 1 = 0) (hc : 0 ≤ c ∧ c < 65536) (hf : f = 0 ∨ f = 1) : MGE E0 yX3_step wsX3_step 1 22 ad σ [.ref (ad 10), .int (iI c), .int (iI f)] (PW (rdU σ (stP (σ 9) (σ 8 0) (σ 10 0) c f) (stR (σ 9) (σ 8 0) (σ 10 0) c f))) := by
  refine MGE.of (cc := cX3_step) (maxL := 3) (ret := none) (own := RX3) [some (.ref (ad 10)), some (.int (iI c)), some (.int (iI f))] (by decide +kernel) rfl rfl (Nat.le_of_ble_eq_true rfl) rfl rfl (fun E X hr => ?_)
  have i3 : ∀ w ∈ wsX30, w ∈ wsX3_step := by decide +kernel
  refine g_rg (fun hR0 => ?_)
  have h8 := hTX.1
  have hi0 := iA_01 σ (σ 10 0) c
  refine g_aload0 X dX3_step_0 ?_
  refine gf_3_text X i3 (by decide +kernel) dX3_step_1 ?_
  refine g_aload0 X dX3_step_4 ?_
  refine gf_3_place X i3 (by decide +kernel) dX3_step_5 ?_
  refine g_iload1 X dX3_step_8 ?_
  refine g_F2 X (k_X5_isAt E hTX.1 (by omega) (by omega)) gX3_step_X5_isAt rfl (by decide +kernel) (by decide) ob_8 (Nat.le_of_ble_eq_true rfl) dX3_step_9 (fun hz9 => ?_)
  refine g_rg (fun hR9 => ?_)
  refine g_if_ne (tgt := 23) X (by first | exact hR9 _ _ | exact hR0 _ _ | assumption | (unfold InR; omega)) dX3_step_12 (by decide) (fun h12 => ?_) (fun h12 => ?_)
  · skip
    refine g_iload2 X dX3_step_23 ?_
    refine g_if_ne (tgt := 35) X (by first | exact hR9 _ _ | exact hR0 _ _ | assumption | (unfold InR; omega)) dX3_step_24 (by decide) (fun h24 => ?_) (fun h24 => ?_)
    · skip
      refine g_aload0 X dX3_step_35 ?_
      refine g_dup X dX3_step_36 rfl ?_
      refine gf_3_place X i3 (by decide +kernel) dX3_step_37 ?_
      refine g_iconst X dX3_step_40 ?_
      refine g_iadd X dX3_step_41 ?_
      refine gp_3_place X i3 (by decide +kernel) (by first | exact hR9 _ _ | exact hR0 _ _ | assumption | (unfold InR; omega)) dX3_step_42 ?_
      refine g_rg (fun hR42 => ?_)
      exact g_vretW X hr (by
    first
      | exact rdU_eq (by unfold up; rw [if_neg (by omega)]; unfold stP; rw [if_neg (by omega)]) (by unfold up; rw [if_pos ⟨rfl, rfl⟩]; unfold stR; rw [if_neg (by omega)]) (fun q k h => by unfold up; rw [if_neg (by omega)])
      | exact rdU_eq (by unfold up; rw [if_neg (by omega)]; unfold stP; rw [if_neg (by omega)]) (by unfold up; rw [if_pos ⟨rfl, rfl⟩]; unfold stR; rw [if_pos (by omega), if_pos (by omega)]) (fun q k h => by unfold up; rw [if_neg (by omega)])
      | exact rdU_eq (by unfold up; rw [if_pos ⟨rfl, rfl⟩]; unfold stP; rw [if_pos (by omega)]) (by unfold up; rw [if_neg (by omega)]; unfold stR; rw [if_pos (by omega), if_neg (by omega)]; exact he) (fun q k h => by unfold up; rw [if_neg (by omega)])) dX3_step_45
    · skip
      refine g_aload0 X dX3_step_27 ?_
      refine g_iconst X dX3_step_28 ?_
      refine gp_3_reason X i3 (by decide +kernel) (by first | exact hR9 _ _ | exact hR0 _ _ | assumption | (unfold InR; omega)) dX3_step_29 ?_
      refine g_rg (fun hR29 => ?_)
      refine g_goto (tgt := 45) X dX3_step_32 (by decide) ?_
      exact g_vretW X hr (by
    first
      | exact rdU_eq (by unfold up; rw [if_neg (by omega)]; unfold stP; rw [if_neg (by omega)]) (by unfold up; rw [if_pos ⟨rfl, rfl⟩]; unfold stR; rw [if_neg (by omega)]) (fun q k h => by unfold up; rw [if_neg (by omega)])
      | exact rdU_eq (by unfold up; rw [if_neg (by omega)]; unfold stP; rw [if_neg (by omega)]) (by unfold up; rw [if_pos ⟨rfl, rfl⟩]; unfold stR; rw [if_pos (by omega), if_pos (by omega)]) (fun q k h => by unfold up; rw [if_neg (by omega)])
      | exact rdU_eq (by unfold up; rw [if_pos ⟨rfl, rfl⟩]; unfold stP; rw [if_pos (by omega)]) (by unfold up; rw [if_neg (by omega)]; unfold stR; rw [if_pos (by omega), if_neg (by omega)]; exact he) (fun q k h => by unfold up; rw [if_neg (by omega)])) dX3_step_45
  · skip
    refine g_aload0 X dX3_step_15 ?_
    refine g_iconst X dX3_step_16 ?_
    refine gp_3_reason X i3 (by decide +kernel) (by first | exact hR9 _ _ | exact hR0 _ _ | assumption | (unfold InR; omega)) dX3_step_17 ?_
    refine g_rg (fun hR17 => ?_)
    refine g_goto (tgt := 45) X dX3_step_20 (by decide) ?_
    exact g_vretW X hr (by
    first
      | exact rdU_eq (by unfold up; rw [if_neg (by omega)]; unfold stP; rw [if_neg (by omega)]) (by unfold up; rw [if_pos ⟨rfl, rfl⟩]; unfold stR; rw [if_neg (by omega)]) (fun q k h => by unfold up; rw [if_neg (by omega)])
      | exact rdU_eq (by unfold up; rw [if_neg (by omega)]; unfold stP; rw [if_neg (by omega)]) (by unfold up; rw [if_pos ⟨rfl, rfl⟩]; unfold stR; rw [if_pos (by omega), if_pos (by omega)]) (fun q k h => by unfold up; rw [if_neg (by omega)])
      | exact rdU_eq (by unfold up; rw [if_pos ⟨rfl, rfl⟩]; unfold stP; rw [if_pos (by omega)]) (by unfold up; rw [if_neg (by omega)]; unfold stR; rw [if_pos (by omega), if_neg (by omega)]; exact he) (fun q k h => by unfold up; rw [if_neg (by omega)])) dX3_step_45
end
section
/-! MY CONTRACTS: the reader's rows -/
theorem iA_ac (σ : St) (i c : Int) : (iA σ i c = 1 ∧ isAc (σ 9) (σ 8 0) i c) ∨ (iA σ i c = 0 ∧ ¬ isAc (σ 9) (σ 8 0) i c) := by
  unfold iA
  by_cases h : i < σ 8 0 ∧ σ 9 i = c
  · rw [if_pos h]; exact Or.inl ⟨rfl, h⟩
  · rw [if_neg h]; exact Or.inr ⟨rfl, h⟩
def FRe (σ σ' : St) (r n : Int) : Prop := ∀ q k, ¬ (q = 10 ∧ (k = 0 ∨ k = 1)) → ¬ (q = TR 5 r ∧ 0 ≤ k ∧ k < n) → σ' q k = σ q k
/-- where the rows' reading comes to: rows, place, reason, entries of the first -/
def rwG (T : Int → Int) (len : Int) : Nat → Int → Int → Int → Int × Int × Int × Int
  | 0, r, p, w => (r, p, 0, w)
  | k + 1, r, p, w => if roR T len r w p ≠ 0 then (r + 1, roP T len r w p, roR T len r w p, roW T len r w p)
    else if roP T len r w p = len then (r + 1, len, 0, roW T len r w p)
    else if stR T len (roP T len r w p) 59 (if r + 1 < 7 then 1 else 0) ≠ 0 then (r + 1, roP T len r w p, stR T len (roP T len r w p) 59 (if r + 1 < 7 then 1 else 0), roW T len r w p)
    else rwG T len k (r + 1) (roP T len r w p + 1) (roW T len r w p)
theorem rwG_s {T : Int → Int} {len r p w : Int} (h : r < 7) : rwG T len (7 - r).toNat r p w = if roR T len r w p ≠ 0 then (r + 1, roP T len r w p, roR T len r w p, roW T len r w p)
    else if roP T len r w p = len then (r + 1, len, 0, roW T len r w p)
    else if stR T len (roP T len r w p) 59 (if r + 1 < 7 then 1 else 0) ≠ 0 then (r + 1, roP T len r w p, stR T len (roP T len r w p) 59 (if r + 1 < 7 then 1 else 0), roW T len r w p)
    else rwG T len (7 - (r + 1)).toNat (r + 1) (roP T len r w p + 1) (roW T len r w p) := by
  rw [show (7 - r).toNat = (7 - (r + 1)).toNat + 1 by omega]
  rw [rwG]
def rwR (T : Int → Int) (len : Int) : Int × Int × Int × Int := rwG T len 7 0 0 7
/-- the width and the place of the row r -/
def wiS (T : Int → Int) (len : Int) : Int := roN T len 0 7 0
def rpS (T : Int → Int) (len i : Int) : Int := FI (fun a r => roP T len r (if r = 0 then 7 else wiS T len) a + 1) 0 i
theorem rpS_s {T : Int → Int} {len i : Int} (h : 0 ≤ i) : rpS T len (i + 1) = roP T len i (if i = 0 then 7 else wiS T len) (rpS T len i) + 1 := FI_s h
/-- what a table of the text holds -/
def txC (T : Int → Int) (len w j : Int) : Int := enV T len (plS T len (rpS T len w) j)
def txD (T : Int → Int) (len w : Int) : Int := nV T len (rsP T len w (if w = 0 then 7 else wiS T len) (rpS T len w))
theorem roN_b {T : Int → Int} {len r w p : Int} (hw : r = 0 ∨ 1 ≤ w) (hp : p ≤ len) : 1 ≤ roN T len r w p ∧ roN T len r w p ≤ rMo r w := (esR_b (rMo_b hw) hp).1
theorem wiS_b {T : Int → Int} {len : Int} (h : 0 ≤ len) : 1 ≤ wiS T len ∧ wiS T len ≤ 7 := roN_b (r := 0) (w := 7) (Or.inl rfl) h
set_option maxHeartbeats 4000000 in
set_option maxRecDepth 100000 in
theorem k_X3_readEntries (E0 : EV) {ad : Int → Nat} {σ : St} {r : Int} (hTX : TXK σ) (hp : 0 ≤ σ 10 0 ∧ σ 10 0 ≤ σ 8 0) (he : σ 10 1 = 0) (hr0 : 0 ≤ r ∧ r < 7) (hw0 : r = 0 ∨ (1 ≤ σ (TB 5) 1 ∧ σ (TB 5) 1 ≤ 7)) : MGE E0 yX3_readEntries wsX3_readEntries 3 63 ad σ [.ref (ad 10), .int (iI r)] (PI (fun z σ' => z = (esR (σ 9) (σ 8 0) (rMo r (σ (TB 5) 1)) (σ 10 0)).1 ∧ σ' 10 0 = (esR (σ 9) (σ 8 0) (rMo r (σ (TB 5) 1)) (σ 10 0)).2.1 ∧ σ' 10 1 = (esR (σ 9) (σ 8 0) (rMo r (σ (TB 5) 1)) (σ 10 0)).2.2 ∧ FRe σ σ' r z ∧ ∀ k, 0 ≤ k → k < z → σ' (TR 5 r) k = enV (σ 9) (σ 8 0) (plS (σ 9) (σ 8 0) (σ 10 0) k))) := by
  refine MGE.of (cc := cX3_readEntries) (maxL := 5) (ret := (some .int)) (own := RX3) [some (.ref (ad 10)), some (.int (iI r)), none, none, none] (by decide +kernel) rfl rfl (Nat.le_of_ble_eq_true rfl) rfl rfl (fun E X hr => ?_)
  have i3 : ∀ w ∈ wsX30, w ∈ wsX3_readEntries := by decide +kernel
  have i4 : ∀ w ∈ wsX40, w ∈ wsX3_readEntries := by decide +kernel
  refine g_rg (fun hR0 => ?_)
  have h8 := hTX.1
  have J16 : ∀ M : Int, M = rMo r (σ (TB 5) 1) → WG E ad 5 σ 16 [some (.ref (ad 10)), some (.int (iI r)), none, none, none] [.int (iI M)] := by
    intro M hM
    have hMb : 1 ≤ M ∧ M ≤ 7 := by
      rw [hM]; unfold rMo
      by_cases h : r = 0
      · rw [if_pos h]; omega
      · rw [if_neg h]; omega
    refine g_istore2 X dX3_readEntries_16 (by decide) (by first | exact Or.inl rfl | exact Or.inr ⟨_, rfl, rfl⟩) ?_
    refine g_iconst X dX3_readEntries_17 ?_
    refine g_istore3 X dX3_readEntries_18 (by decide) (by first | exact Or.inl rfl | exact Or.inr ⟨_, rfl, rfl⟩) ?_
    refine g_iconst X dX3_readEntries_19 ?_
    refine g_istore4 X dX3_readEntries_20 (by decide) (by first | exact Or.inl rfl | exact Or.inr ⟨_, rfl, rfl⟩) ?_
    have L22 : ∀ (n22 : Nat) (n b : Int) (σ1 : St), (8 - n).toNat < n22 → (0 ≤ n ∧ n ≤ M) → (FRe σ σ1 r n) → (0 ≤ σ1 10 0 ∧ σ1 10 0 ≤ σ 8 0) → (∀ k, 0 ≤ k → k < n → σ1 (TR 5 r) k = enV (σ 9) (σ 8 0) (plS (σ 9) (σ 8 0) (σ 10 0) k)) → ((b = 1 ∧ n < M ∧ σ1 10 1 = 0 ∧ esG (σ 9) (σ 8 0) M (M - n).toNat n (σ1 10 0) = esR (σ 9) (σ 8 0) M (σ 10 0) ∧ σ1 10 0 = plS (σ 9) (σ 8 0) (σ 10 0) n) ∨ ((b = 0 ∨ M ≤ n) ∧ 1 ≤ n ∧ esR (σ 9) (σ 8 0) M (σ 10 0) = (n, σ1 10 0, σ1 10 1))) → (b = 0 ∨ b = 1) → WG E ad 5 σ1 22 [some (.ref (ad 10)), some (.int (iI r)), some (.int (iI M)), some (.int (iI n)), some (.int (iI b))] [] := by
      intro n22
      induction n22 with
      | zero => intro n b σ1 hn; exact absurd hn (Nat.not_lt_zero _)
      | succ n22 ih22 =>
        intro n b σ1 hn22 hn hF hp1 hc hg hb
        refine g_rg (fun hRL22 => ?_)
        refine g_iload4 X dX3_readEntries_22 ?_
        refine g_if_eq (tgt := 104) X (by first | exact hRL22 _ _ | exact hR0 _ _ | assumption | (unfold InR; omega)) dX3_readEntries_24 (by decide) (fun h24 => ?_) (fun h24 => ?_)
        · skip
          refine g_iload3 X dX3_readEntries_104 ?_
          exact g_iret X hr (by first | exact hRL22 _ _ | exact hR0 _ _ | assumption | (unfold InR; omega)) (by
    have hgf : esR (σ 9) (σ 8 0) M (σ 10 0) = (n, σ1 10 0, σ1 10 1) := by
      rcases hg with hg | hg
      · exfalso; omega
      · exact hg.2.2
    rw [← hM, hgf]
    exact ⟨rfl, rfl, rfl, hF, hc⟩) dX3_readEntries_105
        · skip
          refine g_iload3 X dX3_readEntries_27 ?_
          refine g_iload2 X dX3_readEntries_28 ?_
          refine g_icmp_ge (tgt := 104) X (by first | exact hRL22 _ _ | exact hR0 _ _ | assumption | (unfold InR; omega)) (by first | exact hRL22 _ _ | exact hR0 _ _ | assumption | (unfold InR; omega)) dX3_readEntries_29 (by decide) (fun h29 => ?_) (fun h29 => ?_)
          · skip
            refine g_iload3 X dX3_readEntries_104 ?_
            exact g_iret X hr (by first | exact hRL22 _ _ | exact hR0 _ _ | assumption | (unfold InR; omega)) (by
    have hgf : esR (σ 9) (σ 8 0) M (σ 10 0) = (n, σ1 10 0, σ1 10 1) := by
      rcases hg with hg | hg
      · exfalso; omega
      · exact hg.2.2
    rw [← hM, hgf]
    exact ⟨rfl, rfl, rfl, hF, hc⟩) dX3_readEntries_105
          · skip
            rcases hg with ⟨hg1, hg2, hg3, hg4, hg5⟩ | hg
            rotate_left
            · exfalso
              omega
            have e8 : σ1 8 0 = σ 8 0 := hF _ _ (by omega) (by unfold TR; omega)
            have e9 : σ1 9 = σ 9 := funext fun k => hF _ _ (by omega) (by unfold TR; omega)
            have hTX1 := hTX.of e8 (fun k => congrFun e9 k)
            have hvb := enV_b (T := σ1 9) (len := σ1 8 0) (p := σ1 10 0)
            refine g_aload0 X dX3_readEntries_32 ?_
            refine gf_3_found X i3 (by decide +kernel) dX3_readEntries_33 ?_
            refine gf_4_costs X (by omega) i4 (by decide +kernel) dX3_readEntries_36 ?_
            refine g_iload1 X dX3_readEntries_39 ?_
            refine g_aald_TC X (by omega) (by omega) dX3_readEntries_40 ?_
            refine g_iload3 X dX3_readEntries_41 ?_
            refine g_aload0 X dX3_readEntries_42 ?_
            refine g_F0 X (k_X3_readEntry E hTX1 (by omega) (by omega)) gX3_readEntries_X3_readEntry rfl (by decide +kernel) (by decide) ob_10 (Nat.le_of_ble_eq_true rfl) dX3_readEntries_43 (fun hz43 => ?_)
            refine g_rg (fun hR43 => ?_)
            refine g_iast X (ia_TR (by omega) (by omega) (by omega)) (by first | exact hR43 _ _ | exact hRL22 _ _ | exact hR0 _ _ | assumption | (unfold InR; omega)) dX3_readEntries_46 ?_
            refine g_rg (fun hR46 => ?_)
            generalize hσ3 : up (rdU σ1 (enP (σ1 9) (σ1 8 0) (σ1 10 0)) (enR (σ1 9) (σ1 8 0) (σ1 10 0))) (TR 5 r) n (enV (σ1 9) (σ1 8 0) (σ1 10 0)) = σ3
            obtain ⟨u1, u2, u3⟩ := rdU_at σ1 (enP (σ1 9) (σ1 8 0) (σ1 10 0)) (enR (σ1 9) (σ1 8 0) (σ1 10 0))
            have q1 : σ3 10 0 = enP (σ 9) (σ 8 0) (σ1 10 0) := by
              rw [← hσ3]; unfold up; rw [if_neg (by unfold TR; omega), u1, e9, e8]
            have q2 : σ3 10 1 = enR (σ 9) (σ 8 0) (σ1 10 0) := by
              rw [← hσ3]; unfold up; rw [if_neg (by unfold TR; omega), u2, e9, e8]
            have hF3 : FRe σ σ3 r (n + 1) := fun q k h1 h2 => by
              rw [← hσ3]; unfold up; rw [if_neg (by omega), u3 q k h1]
              exact hF q k h1 (by omega)
            have e38 : σ3 8 0 = σ 8 0 := hF3 _ _ (by omega) (by unfold TR; omega)
            have e39 : σ3 9 = σ 9 := funext fun k => hF3 _ _ (by omega) (by unfold TR; omega)
            have hTX3 := hTX.of e38 (fun k => congrFun e39 k)
            have hpb := enP_b (T := σ 9) hp1.2
            have hrb := enR_b (T := σ 9) (len := σ 8 0) (p := σ1 10 0)
            have hc3 : ∀ k, 0 ≤ k → k < n + 1 → σ3 (TR 5 r) k = enV (σ 9) (σ 8 0) (plS (σ 9) (σ 8 0) (σ 10 0) k) := fun k h1 h2 => by
              rw [← hσ3]; unfold up
              by_cases hk : k = n
              · rw [if_pos ⟨rfl, hk⟩, e9, e8, hg5, hk]
              · rw [if_neg (fun h => hk h.2), u3 _ _ (by unfold TR; omega)]
                exact hc k h1 (by omega)
            have hi3 : (iA σ3 (σ3 10 0) 44 = 1 ∧ isAc (σ 9) (σ 8 0) (enP (σ 9) (σ 8 0) (σ1 10 0)) 44) ∨ (iA σ3 (σ3 10 0) 44 = 0 ∧ ¬ isAc (σ 9) (σ 8 0) (enP (σ 9) (σ 8 0) (σ1 10 0)) 44) := by
              have h := iA_ac σ3 (σ3 10 0) 44
              rw [show isAc (σ3 9) (σ3 8 0) (σ3 10 0) 44 = isAc (σ 9) (σ 8 0) (enP (σ 9) (σ 8 0) (σ1 10 0)) 44 from by rw [e39, e38, q1]] at h
              exact h
            have hgs := esG_s (T := σ 9) (len := σ 8 0) (p := σ1 10 0) hg2
            refine g_rg (fun hR47 => ?_)
            have J78 : ∀ c : Int, (c = 1 ∧ enR (σ 9) (σ 8 0) (σ1 10 0) = 0 ∧ isAc (σ 9) (σ 8 0) (enP (σ 9) (σ 8 0) (σ1 10 0)) 44) ∨ (c = 0 ∧ ¬ (enR (σ 9) (σ 8 0) (σ1 10 0) = 0 ∧ isAc (σ 9) (σ 8 0) (enP (σ 9) (σ 8 0) (σ1 10 0)) 44)) → WG E ad 5 σ3 78 [some (.ref (ad 10)), some (.int (iI r)), some (.int (iI M)), some (.int (iI (n + 1))), some (.int (iI b))] [.int (iI c)] := by
              intro c hcc
              refine g_istore4 X dX3_readEntries_78 (by decide) (by first | exact Or.inl rfl | exact Or.inr ⟨_, rfl, rfl⟩) ?_
              refine g_iload4 X dX3_readEntries_80 ?_
              refine g_if_eq (tgt := 22) X (by first | exact hR47 _ _ | exact hR46 _ _ | exact hR43 _ _ | exact hRL22 _ _ | exact hR0 _ _ | assumption | (unfold InR; omega)) dX3_readEntries_82 (by decide) (fun h82 => ?_) (fun h82 => ?_)
              · skip
                refine ih22 _ _ _ (by omega) ?_ ?_ ?_ ?_ ?_ ?_
                · omega
                · first
                    | exact hF3
                    | exact fun q k h1 h2 => ((rdU_at σ3 _ _).2.2 q k h1).trans (hF3 q k h1 h2)
                · first
                    | (rw [q1]; omega)
                    | (rw [(rdU_at σ3 _ _).1, q1, e39, e38]
                       have := stP_b (T := σ 9) (c := 44) (f := f) (p := enP (σ 9) (σ 8 0) (σ1 10 0)) hpb.2
                       omega)
                · first
                    | exact hc3
                    | exact fun k h1 h2 => ((rdU_at σ3 _ _).2.2 _ _ (by unfold TR; omega)).trans (hc3 k h1 h2)
                · first
                    | (refine Or.inr ⟨by omega, by omega, ?_⟩
                       rw [q1, q2, ← hg4, hgs]
                       by_cases hz : enR (σ 9) (σ 8 0) (σ1 10 0) = 0
                       · rw [if_neg (by omega), if_neg (by omega), hz]
                       · rw [if_pos hz]
                       done)
                    | (rw [(rdU_at σ3 _ _).1, (rdU_at σ3 _ _).2.1, q1, e39, e38]
                       by_cases hM1 : n + 1 < M
                       · rw [if_pos hM1] at hgs hf
                         have es : stP (σ 9) (σ 8 0) (enP (σ 9) (σ 8 0) (σ1 10 0)) 44 f = enP (σ 9) (σ 8 0) (σ1 10 0) + 1 := by
                           unfold stP; rw [if_pos ⟨hcy.2, by omega⟩]
                         refine Or.inl ⟨by omega, hM1, ?_, ?_, ?_⟩
                         · unfold stR; rw [if_pos hcy.2, if_neg (by omega)]
                         · rw [es, ← hg4, hgs]
                         · rw [es, plS_s hn.1, ← hg5]
                       · rw [if_neg hM1] at hgs hf
                         refine Or.inr ⟨by omega, by omega, ?_⟩
                         rw [← hg4, hgs]
                         unfold stP stR
                         rw [if_neg (by omega), if_pos hcy.2, if_pos (by omega)])
                · omega
              · skip
                have hcy : enR (σ 9) (σ 8 0) (σ1 10 0) = 0 ∧ isAc (σ 9) (σ 8 0) (enP (σ 9) (σ 8 0) (σ1 10 0)) 44 := by omega
                rw [if_neg (by omega), if_pos hcy.2] at hgs
                have J98 : ∀ f : Int, f = (if n + 1 < M then 1 else 0) → WG E ad 5 σ3 98 [some (.ref (ad 10)), some (.int (iI r)), some (.int (iI M)), some (.int (iI (n + 1))), some (.int (iI c))] [.int (iI f), .int (iI 44), .ref (ad 10)] := by
                  intro f hf
                  have hf01 : f = 0 ∨ f = 1 := by
                    rw [hf]; by_cases h : n + 1 < M
                    · rw [if_pos h]; exact Or.inr rfl
                    · rw [if_neg h]; exact Or.inl rfl
                  refine g_W2 X (k_X3_step E hTX3 (by omega) (by omega) (by omega) (by omega)) gX3_readEntries_X3_step rfl (by decide +kernel) (by decide) ob_10 (Nat.le_of_ble_eq_true rfl) dX3_readEntries_98 ?_
                  refine g_rg (fun hR98 => ?_)
                  refine g_goto (tgt := 22) X dX3_readEntries_101 (by decide) ?_
                  refine ih22 _ _ _ (by omega) ?_ ?_ ?_ ?_ ?_ ?_
                  · omega
                  · first
                      | exact hF3
                      | exact fun q k h1 h2 => ((rdU_at σ3 _ _).2.2 q k h1).trans (hF3 q k h1 h2)
                  · first
                      | (rw [q1]; omega)
                      | (rw [(rdU_at σ3 _ _).1, q1, e39, e38]
                         have := stP_b (T := σ 9) (c := 44) (f := f) (p := enP (σ 9) (σ 8 0) (σ1 10 0)) hpb.2
                         omega)
                  · first
                      | exact hc3
                      | exact fun k h1 h2 => ((rdU_at σ3 _ _).2.2 _ _ (by unfold TR; omega)).trans (hc3 k h1 h2)
                  · first
                      | (refine Or.inr ⟨by omega, by omega, ?_⟩
                         rw [q1, q2, ← hg4, hgs]
                         by_cases hz : enR (σ 9) (σ 8 0) (σ1 10 0) = 0
                         · rw [if_neg (by omega), if_neg (by omega), hz]
                         · rw [if_pos hz]
                         done)
                      | (rw [(rdU_at σ3 _ _).1, (rdU_at σ3 _ _).2.1, q1, e39, e38]
                         by_cases hM1 : n + 1 < M
                         · rw [if_pos hM1] at hgs hf
                           have es : stP (σ 9) (σ 8 0) (enP (σ 9) (σ 8 0) (σ1 10 0)) 44 f = enP (σ 9) (σ 8 0) (σ1 10 0) + 1 := by
                             unfold stP; rw [if_pos ⟨hcy.2, by omega⟩]
                           refine Or.inl ⟨by omega, hM1, ?_, ?_, ?_⟩
                           · unfold stR; rw [if_pos hcy.2, if_neg (by omega)]
                           · rw [es, ← hg4, hgs]
                           · rw [es, plS_s hn.1, ← hg5]
                         · rw [if_neg hM1] at hgs hf
                           refine Or.inr ⟨by omega, by omega, ?_⟩
                           rw [← hg4, hgs]
                           unfold stP stR
                           rw [if_neg (by omega), if_pos hcy.2, if_pos (by omega)])
                  · omega
                refine g_aload0 X dX3_readEntries_85 ?_
                refine g_bipush X dX3_readEntries_86 (by decide +kernel) ?_
                refine g_iload3 X dX3_readEntries_88 ?_
                refine g_iload2 X dX3_readEntries_89 ?_
                refine g_icmp_ge (tgt := 97) X (by first | exact hR47 _ _ | exact hR46 _ _ | exact hR43 _ _ | exact hRL22 _ _ | exact hR0 _ _ | assumption | (unfold InR; omega)) (by first | exact hR47 _ _ | exact hR46 _ _ | exact hR43 _ _ | exact hRL22 _ _ | exact hR0 _ _ | assumption | (unfold InR; omega)) dX3_readEntries_90 (by decide) (fun h90 => ?_) (fun h90 => ?_)
                · skip
                  refine g_iconst X dX3_readEntries_97 ?_
                  exact J98 _ (by first | (rw [if_pos (by omega)]; done) | (rw [if_neg (by omega)]; done))
                · skip
                  refine g_iconst X dX3_readEntries_93 ?_
                  refine g_goto (tgt := 98) X dX3_readEntries_94 (by decide) ?_
                  exact J98 _ (by first | (rw [if_pos (by omega)]; done) | (rw [if_neg (by omega)]; done))
            refine g_iinc3 X dX3_readEntries_47 (by decide) (by first | exact Or.inl rfl | exact Or.inr ⟨_, rfl, rfl⟩) ?_
            refine g_aload0 X dX3_readEntries_50 ?_
            refine gf_3_reason X i3 (by decide +kernel) dX3_readEntries_51 ?_
            refine g_if_ne (tgt := 77) X (by first | exact hR47 _ _ | exact hR46 _ _ | exact hR43 _ _ | exact hRL22 _ _ | exact hR0 _ _ | assumption | (unfold InR; omega)) dX3_readEntries_54 (by decide) (fun h54 => ?_) (fun h54 => ?_)
            · skip
              refine g_iconst X dX3_readEntries_77 ?_
              exact J78 _ (by omega)
            · skip
              refine g_aload0 X dX3_readEntries_57 ?_
              refine gf_3_text X i3 (by decide +kernel) dX3_readEntries_58 ?_
              refine g_aload0 X dX3_readEntries_61 ?_
              refine gf_3_place X i3 (by decide +kernel) dX3_readEntries_62 ?_
              refine g_bipush X dX3_readEntries_65 (by decide +kernel) ?_
              refine g_F2 X (k_X5_isAt E hTX3.1 (by omega) (by omega)) gX3_readEntries_X5_isAt rfl (by decide +kernel) (by decide) ob_8 (Nat.le_of_ble_eq_true rfl) dX3_readEntries_67 (fun hz67 => ?_)
              refine g_rg (fun hR67 => ?_)
              refine g_if_eq (tgt := 77) X (by first | exact hR67 _ _ | exact hR47 _ _ | exact hR46 _ _ | exact hR43 _ _ | exact hRL22 _ _ | exact hR0 _ _ | assumption | (unfold InR; omega)) dX3_readEntries_70 (by decide) (fun h70 => ?_) (fun h70 => ?_)
              · skip
                refine g_iconst X dX3_readEntries_77 ?_
                exact J78 _ (by omega)
              · skip
                refine g_iconst X dX3_readEntries_73 ?_
                refine g_goto (tgt := 78) X dX3_readEntries_74 (by decide) ?_
                exact J78 _ (by omega)
    refine L22 _ _ _ _ (Nat.lt_succ_self _) ?_ ?_ ?_ ?_ ?_ ?_
    · omega
    · exact fun q k _ _ => rfl
    · exact hp
    · intro k h1 h2
      omega
    · refine Or.inl ⟨rfl, by omega, he, ?_, rfl⟩
      unfold esR
      rw [Int.sub_zero]
    · omega
  have h8 := hTX.1
  refine g_iload1 X dX3_readEntries_0 ?_
  refine g_if_ne (tgt := 9) X (by first | exact hR0 _ _ | assumption | (unfold InR; omega)) dX3_readEntries_1 (by decide) (fun h1 => ?_) (fun h1 => ?_)
  · skip
    refine g_aload0 X dX3_readEntries_9 ?_
    refine gf_3_found X i3 (by decide +kernel) dX3_readEntries_10 ?_
    refine gf_4_tasks X (by omega) i4 (by decide +kernel) dX3_readEntries_13 ?_
    exact J16 _ (by first | (unfold rMo; rw [if_pos (by omega)]; done) | (unfold rMo; rw [if_neg (by omega)]; done))
  · skip
    refine g_bipush X dX3_readEntries_4 (by decide +kernel) ?_
    refine g_goto (tgt := 16) X dX3_readEntries_6 (by decide) ?_
    exact J16 _ (by first | (unfold rMo; rw [if_pos (by omega)]; done) | (unfold rMo; rw [if_neg (by omega)]; done))

/-- behind the entries and the "/": the place and the reason -/
def rqP (T : Int → Int) (len r w p : Int) : Int := if (esR T len (rMo r w) p).2.2 ≠ 0 then (esR T len (rMo r w) p).2.1 else rsP T len r w p
def rqR (T : Int → Int) (len r w p : Int) : Int := if (esR T len (rMo r w) p).2.2 ≠ 0 then (esR T len (rMo r w) p).2.2 else rsR T len r w p
theorem rqP_b {T : Int → Int} {len r w p : Int} (hw : r = 0 ∨ 1 ≤ w) (hp : 0 ≤ p ∧ p ≤ len) : 0 ≤ rqP T len r w p ∧ rqP T len r w p ≤ len := by
  have h1 := esR_b (T := T) (len := len) (most := rMo r w) (p := p) (rMo_b hw) hp.2
  have h2 := stP_b (T := T) (c := 47) (f := rFi r w (esR T len (rMo r w) p).1) h1.2.1.2
  unfold rqP rsP
  by_cases c1 : (esR T len (rMo r w) p).2.2 ≠ 0
  · rw [if_pos c1]; omega
  · rw [if_neg c1]; omega
theorem roP_q {T : Int → Int} {len r w p : Int} : roP T len r w p = if rqR T len r w p ≠ 0 then rqP T len r w p else nP T len (rqP T len r w p) := by
  unfold roP rqR rqP
  by_cases c1 : (esR T len (rMo r w) p).2.2 ≠ 0
  · rw [if_pos c1, if_pos c1, if_pos c1, if_pos c1]
  · rw [if_neg c1, if_neg c1, if_neg c1]
theorem roR_q {T : Int → Int} {len r w p : Int} : roR T len r w p = if rqR T len r w p ≠ 0 then rqR T len r w p else nR T len (rqP T len r w p) := by
  unfold roR rqR rqP
  by_cases c1 : (esR T len (rMo r w) p).2.2 ≠ 0
  · rw [if_pos c1, if_pos c1, if_pos c1]
  · rw [if_neg c1, if_neg c1, if_neg c1]

set_option maxHeartbeats 4000000 in
set_option maxRecDepth 100000 in
theorem k_X3_readRow (E0 : EV) {ad : Int → Nat} {σ : St} {r : Int} (hTX : TXK σ) (hp : 0 ≤ σ 10 0 ∧ σ 10 0 ≤ σ 8 0) (he : σ 10 1 = 0) (hr0 : 0 ≤ r ∧ r < 7) (hw0 : r = 0 ∨ (1 ≤ σ (TB 5) 1 ∧ σ (TB 5) 1 ≤ 7)) : MGE E0 yX3_readRow wsX3_readRow 4 87 ad σ [.ref (ad 10), .int (iI r)] (PV (fun σ' => σ' 10 0 = roP (σ 9) (σ 8 0) r (σ (TB 5) 1) (σ 10 0) ∧ σ' 10 1 = roR (σ 9) (σ 8 0) r (σ (TB 5) 1) (σ 10 0) ∧ σ' (TB 5) 1 = roW (σ 9) (σ 8 0) r (σ (TB 5) 1) (σ 10 0) ∧ (∀ k, 0 ≤ k → k < roN (σ 9) (σ 8 0) r (σ (TB 5) 1) (σ 10 0) → σ' (TR 5 r) k = enV (σ 9) (σ 8 0) (plS (σ 9) (σ 8 0) (σ 10 0) k)) ∧ (rqR (σ 9) (σ 8 0) r (σ (TB 5) 1) (σ 10 0) = 0 → σ' (TI 5) r = nV (σ 9) (σ 8 0) (rqP (σ 9) (σ 8 0) r (σ (TB 5) 1) (σ 10 0))) ∧ (rqR (σ 9) (σ 8 0) r (σ (TB 5) 1) (σ 10 0) ≠ 0 → σ' (TI 5) r = σ (TI 5) r) ∧ ∀ q k, ¬ (q = 10 ∧ (k = 0 ∨ k = 1)) → ¬ (q = TR 5 r ∧ 0 ≤ k ∧ k < roN (σ 9) (σ 8 0) r (σ (TB 5) 1) (σ 10 0)) → ¬ (q = TI 5 ∧ k = r) → ¬ (q = TB 5 ∧ k = 1) → σ' q k = σ q k)) := by
  refine MGE.of (cc := cX3_readRow) (maxL := 3) (ret := none) (own := RX3) [some (.ref (ad 10)), some (.int (iI r)), none] (by decide +kernel) rfl rfl (Nat.le_of_ble_eq_true rfl) rfl rfl (fun E X hr => ?_)
  have i3 : ∀ w ∈ wsX30, w ∈ wsX3_readRow := by decide +kernel
  have i4 : ∀ w ∈ wsX40, w ∈ wsX3_readRow := by decide +kernel
  refine g_rg (fun hR0 => ?_)
  refine g_aload0 X dX3_readRow_0 ?_
  refine g_iload1 X dX3_readRow_1 ?_
  refine g_I1 X (k_X3_readEntries E hTX (by omega) (by omega) (by omega) (by omega)) gX3_readRow_X3_readEntries rfl (by decide +kernel) (by decide) ob_10 (Nat.le_of_ble_eq_true rfl) dX3_readRow_2 (fun z2 σ2 hz2 hp2 => ?_)
  refine g_rg (fun hR2 => ?_)
  refine g_istore2 X dX3_readRow_5 (by decide) (by first | exact Or.inl rfl | exact Or.inr ⟨_, rfl, rfl⟩) ?_
  obtain ⟨h2z, h2p, h2e, h2g2, h2c⟩ := hp2
  have hzb := esR_b (T := σ 9) (len := σ 8 0) (most := rMo r (σ (TB 5) 1)) (p := σ 10 0) (rMo_b (by omega)) hp.2
  have hMb : rMo r (σ (TB 5) 1) ≤ 7 := by
    unfold rMo; by_cases h : r = 0
    · rw [if_pos h]; omega
    · rw [if_neg h]; omega
  have e28 : σ2 8 0 = σ 8 0 := h2g2 _ _ (by omega) (by unfold TR; omega)
  have e29 : σ2 9 = σ 9 := funext fun k => h2g2 _ _ (by omega) (by unfold TR; omega)
  have e25 : σ2 (TB 5) 1 = σ (TB 5) 1 := h2g2 _ _ (by unfold TB; omega) (by unfold TB TR; omega)
  have hTX2 := hTX.of e28 (fun k => congrFun e29 k)
  have J59 : ∀ (σ4 : St), (∀ q k, ¬ (q = 10 ∧ (k = 0 ∨ k = 1)) → ¬ (q = TR 5 r ∧ 0 ≤ k ∧ k < z2) → ¬ (q = TI 5 ∧ k = r) → σ4 q k = σ q k) → (∀ k, 0 ≤ k → k < z2 → σ4 (TR 5 r) k = enV (σ 9) (σ 8 0) (plS (σ 9) (σ 8 0) (σ 10 0) k)) → (((rqR (σ 9) (σ 8 0) r (σ (TB 5) 1) (σ 10 0)) ≠ 0 ∧ σ4 10 0 = (rqP (σ 9) (σ 8 0) r (σ (TB 5) 1) (σ 10 0)) ∧ σ4 10 1 = (rqR (σ 9) (σ 8 0) r (σ (TB 5) 1) (σ 10 0)) ∧ σ4 (TI 5) r = σ (TI 5) r) ∨ ((rqR (σ 9) (σ 8 0) r (σ (TB 5) 1) (σ 10 0)) = 0 ∧ σ4 10 0 = nP (σ 9) (σ 8 0) (rqP (σ 9) (σ 8 0) r (σ (TB 5) 1) (σ 10 0)) ∧ σ4 10 1 = nR (σ 9) (σ 8 0) (rqP (σ 9) (σ 8 0) r (σ (TB 5) 1) (σ 10 0)) ∧ σ4 (TI 5) r = nV (σ 9) (σ 8 0) (rqP (σ 9) (σ 8 0) r (σ (TB 5) 1) (σ 10 0)))) → WG E ad 3 σ4 59 [some (.ref (ad 10)), some (.int (iI r)), some (.int (iI z2))] [] := by
    intro σ4 hF4 hc4 hg4
    refine g_rg (fun hR59 => ?_)
    refine g_iload1 X dX3_readRow_59 ?_
    refine g_if_ne (tgt := 71) X (by first | exact hR59 _ _ | exact hR2 _ _ | exact hR0 _ _ | assumption | (unfold InR; omega)) dX3_readRow_60 (by decide) (fun h60 => ?_) (fun h60 => ?_)
    · skip
      exact g_vret X hr (by
    have hN : roN (σ 9) (σ 8 0) r (σ (TB 5) 1) (σ 10 0) = z2 := h2z.symm
    rw [hN, roP_q, roR_q]
    first
      | (refine ⟨?_, ?_, ?_, ?_, ?_, ?_, ?_⟩
         · unfold up; rw [if_neg (by unfold TB; omega)]
           rcases hg4 with hg4 | hg4
           · rw [if_pos hg4.1]; exact hg4.2.1
           · rw [if_neg (by omega)]; exact hg4.2.1
         · unfold up; rw [if_neg (by unfold TB; omega)]
           rcases hg4 with hg4 | hg4
           · rw [if_pos hg4.1]; exact hg4.2.2.1
           · rw [if_neg (by omega)]; exact hg4.2.2.1
         · unfold up; rw [if_pos ⟨rfl, rfl⟩]; unfold roW; rw [if_pos (by omega), hN]
         · intro k a1 a2; unfold up; rw [if_neg (by unfold TB TR; omega)]; exact hc4 k a1 a2
         · intro a1; unfold up; rw [if_neg (by unfold TB TI; omega)]
           rcases hg4 with hg4 | hg4
           · exact absurd a1 hg4.1
           · exact hg4.2.2.2
         · intro a1; unfold up; rw [if_neg (by unfold TB TI; omega)]
           rcases hg4 with hg4 | hg4
           · exact hg4.2.2.2
           · exact absurd hg4.1 a1
         · intro q k a1 a2 a3 a4; unfold up; rw [if_neg a4]; exact hF4 q k a1 a2 a3
         done)
      | (refine ⟨?_, ?_, ?_, ?_, ?_, ?_, ?_⟩
         · rcases hg4 with hg4 | hg4
           · rw [if_pos hg4.1]; exact hg4.2.1
           · rw [if_neg (by omega)]; exact hg4.2.1
         · rcases hg4 with hg4 | hg4
           · rw [if_pos hg4.1]; exact hg4.2.2.1
           · rw [if_neg (by omega)]; exact hg4.2.2.1
         · unfold roW; rw [if_neg (by omega)]; exact hF4 _ _ (by unfold TB; omega) (by unfold TB TR; omega) (by unfold TB TI; omega)
         · intro k a1 a2; exact hc4 k a1 a2
         · intro a1
           rcases hg4 with hg4 | hg4
           · exact absurd a1 hg4.1
           · exact hg4.2.2.2
         · intro a1
           rcases hg4 with hg4 | hg4
           · exact hg4.2.2.2
           · exact absurd hg4.1 a1
         · intro q k a1 a2 a3 a4; exact hF4 q k a1 a2 a3)) dX3_readRow_71
    · skip
      refine g_aload0 X dX3_readRow_63 ?_
      refine gf_3_found X i3 (by decide +kernel) dX3_readRow_64 ?_
      refine g_iload2 X dX3_readRow_67 ?_
      refine gp_4_tasks X (by omega) i4 (by decide +kernel) (by first | exact hR59 _ _ | exact hR2 _ _ | exact hR0 _ _ | assumption | (unfold InR; omega)) dX3_readRow_68 ?_
      refine g_rg (fun hR68 => ?_)
      exact g_vret X hr (by
    have hN : roN (σ 9) (σ 8 0) r (σ (TB 5) 1) (σ 10 0) = z2 := h2z.symm
    rw [hN, roP_q, roR_q]
    first
      | (refine ⟨?_, ?_, ?_, ?_, ?_, ?_, ?_⟩
         · unfold up; rw [if_neg (by unfold TB; omega)]
           rcases hg4 with hg4 | hg4
           · rw [if_pos hg4.1]; exact hg4.2.1
           · rw [if_neg (by omega)]; exact hg4.2.1
         · unfold up; rw [if_neg (by unfold TB; omega)]
           rcases hg4 with hg4 | hg4
           · rw [if_pos hg4.1]; exact hg4.2.2.1
           · rw [if_neg (by omega)]; exact hg4.2.2.1
         · unfold up; rw [if_pos ⟨rfl, rfl⟩]; unfold roW; rw [if_pos (by omega), hN]
         · intro k a1 a2; unfold up; rw [if_neg (by unfold TB TR; omega)]; exact hc4 k a1 a2
         · intro a1; unfold up; rw [if_neg (by unfold TB TI; omega)]
           rcases hg4 with hg4 | hg4
           · exact absurd a1 hg4.1
           · exact hg4.2.2.2
         · intro a1; unfold up; rw [if_neg (by unfold TB TI; omega)]
           rcases hg4 with hg4 | hg4
           · exact hg4.2.2.2
           · exact absurd hg4.1 a1
         · intro q k a1 a2 a3 a4; unfold up; rw [if_neg a4]; exact hF4 q k a1 a2 a3
         done)
      | (refine ⟨?_, ?_, ?_, ?_, ?_, ?_, ?_⟩
         · rcases hg4 with hg4 | hg4
           · rw [if_pos hg4.1]; exact hg4.2.1
           · rw [if_neg (by omega)]; exact hg4.2.1
         · rcases hg4 with hg4 | hg4
           · rw [if_pos hg4.1]; exact hg4.2.2.1
           · rw [if_neg (by omega)]; exact hg4.2.2.1
         · unfold roW; rw [if_neg (by omega)]; exact hF4 _ _ (by unfold TB; omega) (by unfold TB TR; omega) (by unfold TB TI; omega)
         · intro k a1 a2; exact hc4 k a1 a2
         · intro a1
           rcases hg4 with hg4 | hg4
           · exact absurd a1 hg4.1
           · exact hg4.2.2.2
         · intro a1
           rcases hg4 with hg4 | hg4
           · exact hg4.2.2.2
           · exact absurd hg4.1 a1
         · intro q k a1 a2 a3 a4; exact hF4 q k a1 a2 a3)) dX3_readRow_71
  have J39 : ∀ (σ3 : St), FRe σ σ3 r z2 → (∀ k, 0 ≤ k → k < z2 → σ3 (TR 5 r) k = enV (σ 9) (σ 8 0) (plS (σ 9) (σ 8 0) (σ 10 0) k)) → (((esR (σ 9) (σ 8 0) (rMo r (σ (TB 5) 1)) (σ 10 0)).2.2 ≠ 0 ∧ σ3 10 1 = (esR (σ 9) (σ 8 0) (rMo r (σ (TB 5) 1)) (σ 10 0)).2.2 ∧ σ3 10 0 = (esR (σ 9) (σ 8 0) (rMo r (σ (TB 5) 1)) (σ 10 0)).2.1) ∨ ((esR (σ 9) (σ 8 0) (rMo r (σ (TB 5) 1)) (σ 10 0)).2.2 = 0 ∧ σ3 10 1 = rsR (σ 9) (σ 8 0) r (σ (TB 5) 1) (σ 10 0) ∧ σ3 10 0 = rsP (σ 9) (σ 8 0) r (σ (TB 5) 1) (σ 10 0))) → WG E ad 3 σ3 39 [some (.ref (ad 10)), some (.int (iI r)), some (.int (iI z2))] [] := by
    intro σ3 hF3 hc3 hg3
    refine g_rg (fun hR39 => ?_)
    have k1 : σ3 10 0 = rqP (σ 9) (σ 8 0) r (σ (TB 5) 1) (σ 10 0) := by
      unfold rqP; rcases hg3 with hg3 | hg3
      · rw [if_pos hg3.1]; exact hg3.2.2
      · rw [if_neg (by omega)]; exact hg3.2.2
    have k2 : σ3 10 1 = rqR (σ 9) (σ 8 0) r (σ (TB 5) 1) (σ 10 0) := by
      unfold rqR; rcases hg3 with hg3 | hg3
      · rw [if_pos hg3.1]; exact hg3.2.1
      · rw [if_neg (by omega)]; exact hg3.2.1
    have k3 : 0 ≤ rqP (σ 9) (σ 8 0) r (σ (TB 5) 1) (σ 10 0) ∧ rqP (σ 9) (σ 8 0) r (σ (TB 5) 1) (σ 10 0) ≤ σ 8 0 := rqP_b (by omega) hp
    have e38 : σ3 8 0 = σ 8 0 := hF3 _ _ (by omega) (by unfold TR; omega)
    have e39 : σ3 9 = σ 9 := funext fun k => hF3 _ _ (by omega) (by unfold TR; omega)
    have hTX3 := hTX.of e38 (fun k => congrFun e39 k)
    have hvb := nV_b (T := σ3 9) (len := σ3 8 0) (p := σ3 10 0)
    refine g_aload0 X dX3_readRow_39 ?_
    refine gf_3_reason X i3 (by decide +kernel) dX3_readRow_40 ?_
    refine g_if_ne (tgt := 59) X (by first | exact hR39 _ _ | exact hR2 _ _ | exact hR0 _ _ | assumption | (unfold InR; omega)) dX3_readRow_43 (by decide) (fun h43 => ?_) (fun h43 => ?_)
    · skip
      first
        | exact J59 _ (fun q k h1 h2 h3 => hF3 q k h1 h2) (fun k h1 h2 => hc3 k h1 h2) (by rw [k1, k2]; exact Or.inl ⟨by omega, rfl, rfl, hF3 _ _ (by unfold TI; omega) (by unfold TI TR; omega)⟩)
        | (obtain ⟨w1, w2, w3⟩ := rdU_at σ3 (nP (σ3 9) (σ3 8 0) (σ3 10 0)) (nR (σ3 9) (σ3 8 0) (σ3 10 0))
           refine J59 _ (fun q k h1 h2 h3 => ?_) (fun k h1 h2 => ?_) (Or.inr ⟨by omega, ?_, ?_, ?_⟩)
           · unfold up; rw [if_neg (by omega), w3 q k h1]; exact hF3 q k h1 h2
           · unfold up; rw [if_neg (by unfold TR TI; omega), w3 _ _ (by unfold TR; omega)]; exact hc3 k h1 h2
           · unfold up; rw [if_neg (by unfold TI; omega), w1, e39, e38, k1]
           · unfold up; rw [if_neg (by unfold TI; omega), w2, e39, e38, k1]
           · unfold up; rw [if_pos ⟨rfl, rfl⟩, e39, e38, k1])
    · skip
      refine g_aload0 X dX3_readRow_46 ?_
      refine gf_3_found X i3 (by decide +kernel) dX3_readRow_47 ?_
      refine gf_4_idleCosts X (by omega) i4 (by decide +kernel) dX3_readRow_50 ?_
      refine g_iload1 X dX3_readRow_53 ?_
      refine g_aload0 X dX3_readRow_54 ?_
      refine g_F0 X (k_X3_readNumber E hTX3 (by omega) (by omega)) gX3_readRow_X3_readNumber rfl (by decide +kernel) (by decide) ob_10 (Nat.le_of_ble_eq_true rfl) dX3_readRow_55 (fun hz55 => ?_)
      refine g_rg (fun hR55 => ?_)
      refine g_iast X (ia_TI (by omega) (by omega)) (by first | exact hR55 _ _ | exact hR39 _ _ | exact hR2 _ _ | exact hR0 _ _ | assumption | (unfold InR; omega)) dX3_readRow_58 ?_
      refine g_rg (fun hR58 => ?_)
      first
        | exact J59 _ (fun q k h1 h2 h3 => hF3 q k h1 h2) (fun k h1 h2 => hc3 k h1 h2) (by rw [k1, k2]; exact Or.inl ⟨by omega, rfl, rfl, hF3 _ _ (by unfold TI; omega) (by unfold TI TR; omega)⟩)
        | (obtain ⟨w1, w2, w3⟩ := rdU_at σ3 (nP (σ3 9) (σ3 8 0) (σ3 10 0)) (nR (σ3 9) (σ3 8 0) (σ3 10 0))
           refine J59 _ (fun q k h1 h2 h3 => ?_) (fun k h1 h2 => ?_) (Or.inr ⟨by omega, ?_, ?_, ?_⟩)
           · unfold up; rw [if_neg (by omega), w3 q k h1]; exact hF3 q k h1 h2
           · unfold up; rw [if_neg (by unfold TR TI; omega), w3 _ _ (by unfold TR; omega)]; exact hc3 k h1 h2
           · unfold up; rw [if_neg (by unfold TI; omega), w1, e39, e38, k1]
           · unfold up; rw [if_neg (by unfold TI; omega), w2, e39, e38, k1]
           · unfold up; rw [if_pos ⟨rfl, rfl⟩, e39, e38, k1])
  refine g_aload0 X dX3_readRow_6 ?_
  refine gf_3_reason X i3 (by decide +kernel) dX3_readRow_7 ?_
  refine g_if_ne (tgt := 39) X (by first | exact hR2 _ _ | exact hR0 _ _ | assumption | (unfold InR; omega)) dX3_readRow_10 (by decide) (fun h10 => ?_) (fun h10 => ?_)
  · skip
    first
      | exact J39 _ (fun q k h1 h2 => h2g2 q k h1 h2) h2c (Or.inl ⟨by omega, h2e, h2p⟩)
      | exact J39 _ (fun q k h1 h2 => ((rdU_at σ2 _ _).2.2 q k h1).trans (h2g2 q k h1 h2)) (fun k h1 h2 => ((rdU_at σ2 _ _).2.2 _ _ (by unfold TR; omega)).trans (h2c k h1 h2)) (Or.inr ⟨by omega, by rw [(rdU_at σ2 _ _).2.1, e29, e28, hf, h2p, h2z]; rfl, by rw [(rdU_at σ2 _ _).1, e29, e28, hf, h2p, h2z]; rfl⟩)
  · skip
    have J36 : ∀ f : Int, f = rFi r (σ (TB 5) 1) z2 → WG E ad 3 σ2 36 [some (.ref (ad 10)), some (.int (iI r)), some (.int (iI z2))] [.int (iI f), .int (iI 47), .ref (ad 10)] := by
      intro f hf
      have hf01 : f = 0 ∨ f = 1 := by
        rw [hf]; unfold rFi; by_cases h : r = 0 ∨ z2 = σ (TB 5) 1
        · rw [if_pos h]; exact Or.inr rfl
        · rw [if_neg h]; exact Or.inl rfl
      refine g_W2 X (k_X3_step E hTX2 (by omega) (by omega) (by omega) (by omega)) gX3_readRow_X3_step rfl (by decide +kernel) (by decide) ob_10 (Nat.le_of_ble_eq_true rfl) dX3_readRow_36 ?_
      refine g_rg (fun hR36 => ?_)
      first
        | exact J39 _ (fun q k h1 h2 => h2g2 q k h1 h2) h2c (Or.inl ⟨by omega, h2e, h2p⟩)
        | exact J39 _ (fun q k h1 h2 => ((rdU_at σ2 _ _).2.2 q k h1).trans (h2g2 q k h1 h2)) (fun k h1 h2 => ((rdU_at σ2 _ _).2.2 _ _ (by unfold TR; omega)).trans (h2c k h1 h2)) (Or.inr ⟨by omega, by rw [(rdU_at σ2 _ _).2.1, e29, e28, hf, h2p, h2z]; rfl, by rw [(rdU_at σ2 _ _).1, e29, e28, hf, h2p, h2z]; rfl⟩)
    refine g_aload0 X dX3_readRow_13 ?_
    refine g_bipush X dX3_readRow_14 (by decide +kernel) ?_
    refine g_iload1 X dX3_readRow_16 ?_
    refine g_if_eq (tgt := 31) X (by first | exact hR2 _ _ | exact hR0 _ _ | assumption | (unfold InR; omega)) dX3_readRow_17 (by decide) (fun h17 => ?_) (fun h17 => ?_)
    · skip
      refine g_iconst X dX3_readRow_31 ?_
      refine g_goto (tgt := 36) X dX3_readRow_32 (by decide) ?_
      exact J36 _ (by first | (unfold rFi; rw [if_pos (by omega)]; done) | (unfold rFi; rw [if_neg (by omega)]; done))
    · skip
      refine g_iload2 X dX3_readRow_20 ?_
      refine g_aload0 X dX3_readRow_21 ?_
      refine gf_3_found X i3 (by decide +kernel) dX3_readRow_22 ?_
      refine gf_4_tasks X (by omega) i4 (by decide +kernel) dX3_readRow_25 ?_
      refine g_icmp_ne (tgt := 35) X (by first | exact hR2 _ _ | exact hR0 _ _ | assumption | (unfold InR; omega)) (by first | exact hR2 _ _ | exact hR0 _ _ | assumption | (unfold InR; omega)) dX3_readRow_28 (by decide) (fun h28 => ?_) (fun h28 => ?_)
      · skip
        refine g_iconst X dX3_readRow_35 ?_
        exact J36 _ (by first | (unfold rFi; rw [if_pos (by omega)]; done) | (unfold rFi; rw [if_neg (by omega)]; done))
      · skip
        refine g_iconst X dX3_readRow_31 ?_
        refine g_goto (tgt := 36) X dX3_readRow_32 (by decide) ?_
        exact J36 _ (by first | (unfold rFi; rw [if_pos (by omega)]; done) | (unfold rFi; rw [if_neg (by omega)]; done))
end
section
/-! MY CONTRACTS: the whole text -/
theorem ro_w {T : Int → Int} {len r w w' p : Int} (h : r = 0 ∨ w = w') : roP T len r w p = roP T len r w' p ∧ roR T len r w p = roR T len r w' p ∧ roN T len r w p = roN T len r w' p ∧ rqR T len r w p = rqR T len r w' p ∧ rqP T len r w p = rqP T len r w' p ∧ rsP T len r w p = rsP T len r w' p := by
  rcases h with rfl | rfl
  · unfold roP roR roN rqR rqP rsP rsR rMo rFi
    simp
  · exact ⟨rfl, rfl, rfl, rfl, rfl, rfl⟩
/-- a row without a fault -/
theorem ro_0 {T : Int → Int} {len r w p : Int} (h : roR T len r w p = 0) : rqR T len r w p = 0 ∧ rqP T len r w p = rsP T len r w p ∧ (r = 0 ∨ roN T len r w p = w) := by
  rw [roR_q] at h
  by_cases c0 : rqR T len r w p ≠ 0
  · rw [if_pos c0] at h; exact absurd h c0
  · have c1 : rqR T len r w p = 0 := by omega
    refine ⟨c1, ?_, ?_⟩
    · unfold rqR at c1
      unfold rqP
      by_cases c2 : (esR T len (rMo r w) p).2.2 ≠ 0
      · rw [if_pos c2] at c1; exact absurd c1 c2
      · rw [if_neg c2]
    · unfold rqR at c1
      by_cases c2 : (esR T len (rMo r w) p).2.2 ≠ 0
      · rw [if_pos c2] at c1; exact absurd c1 c2
      · rw [if_neg c2] at c1
        unfold rsR stR at c1
        by_cases c3 : isAc T len (esR T len (rMo r w) p).2.1 47
        · rw [if_pos c3] at c1
          unfold rFi at c1
          by_cases c4 : r = 0 ∨ (esR T len (rMo r w) p).1 = w
          · rcases c4 with c4 | c4
            · exact Or.inl c4
            · exact Or.inr c4
          · rw [if_neg c4, if_pos rfl] at c1; omega
        · rw [if_neg c3] at c1; omega
def RD (T : Int → Int) (len : Int) (σ1 : St) (r : Int) : Prop := (∀ w j, 0 ≤ w → w < r → 0 ≤ j → j < wiS T len → σ1 (TR 5 w) j = txC T len w j) ∧ ∀ w, 0 ≤ w → w < r → σ1 (TI 5) w = txD T len w
def RI (T : Int → Int) (len : Int) (σ1 : St) (r b : Int) : Prop := (b = 0 ∧ r < 7 ∧ σ1 10 1 = 0 ∧ rwG T len (7 - r).toNat r (σ1 10 0) (if r = 0 then 7 else wiS T len) = rwR T len ∧ σ1 10 0 = rpS T len r ∧ (r ≠ 0 → σ1 (TB 5) 1 = wiS T len) ∧ RD T len σ1 r) ∨
  (b = 1 ∧ ∃ n W, rwR T len = (n, σ1 10 0, σ1 10 1, W) ∧ (σ1 10 1 = 0 → W = wiS T len ∧ σ1 (TB 5) 0 = n ∧ 1 ≤ n ∧ n ≤ 7 ∧ σ1 (TB 5) 1 = wiS T len ∧ RD T len σ1 n))
def RF (σ σ1 : St) : Prop := ∀ q k, q ≠ 10 → ¬ (61 ≤ q ∧ q ≤ 70) → σ1 q k = σ q k
set_option maxHeartbeats 4000000 in
set_option maxRecDepth 100000 in
theorem k_X3_readText (E0 : EV) {ad : Int → Nat} {σ : St} (hTX : TXK σ) (hT50 : TOK σ 5) : MGE E0 yX3_readText wsX3_readText 5 109 ad σ [.ref (ad 10)] (PV (fun σ' => σ' 10 0 = (rwR (σ 9) (σ 8 0)).2.1 ∧ σ' 10 1 = (rwR (σ 9) (σ 8 0)).2.2.1 ∧ TOK σ' 5 ∧ RF σ σ' ∧ ((rwR (σ 9) (σ 8 0)).2.2.1 = 0 → (rwR (σ 9) (σ 8 0)).2.2.2 = wiS (σ 9) (σ 8 0) ∧ σ' (TB 5) 0 = (rwR (σ 9) (σ 8 0)).1 ∧ 1 ≤ (rwR (σ 9) (σ 8 0)).1 ∧ (rwR (σ 9) (σ 8 0)).1 ≤ 7 ∧ σ' (TB 5) 1 = wiS (σ 9) (σ 8 0) ∧ RD (σ 9) (σ 8 0) σ' (rwR (σ 9) (σ 8 0)).1))) := by
  refine MGE.of (cc := cX3_readText) (maxL := 3) (ret := none) (own := RX3) [some (.ref (ad 10)), none, none] (by decide +kernel) rfl rfl (Nat.le_of_ble_eq_true rfl) rfl rfl (fun E X hr => ?_)
  have i3 : ∀ w ∈ wsX30, w ∈ wsX3_readText := by decide +kernel
  have i4 : ∀ w ∈ wsX40, w ∈ wsX3_readText := by decide +kernel
  have i5 : ∀ w ∈ wsX50, w ∈ wsX3_readText := by decide +kernel
  refine g_rg (fun hR0 => ?_)
  have h8 := hTX.1
  refine g_aload0 X dX3_readText_0 ?_
  refine g_iconst X dX3_readText_1 ?_
  refine gp_3_place X i3 (by decide +kernel) (by first | exact hR0 _ _ | assumption | (unfold InR; omega)) dX3_readText_2 ?_
  refine g_rg (fun hR2 => ?_)
  refine g_aload0 X dX3_readText_5 ?_
  refine g_iconst X dX3_readText_6 ?_
  refine gp_3_reason X i3 (by decide +kernel) (by first | exact hR2 _ _ | exact hR0 _ _ | assumption | (unfold InR; omega)) dX3_readText_7 ?_
  refine g_rg (fun hR7 => ?_)
  refine g_iconst X dX3_readText_10 ?_
  refine g_istore1 X dX3_readText_11 (by decide) (by first | exact Or.inl rfl | exact Or.inr ⟨_, rfl, rfl⟩) ?_
  refine g_iconst X dX3_readText_12 ?_
  refine g_istore2 X dX3_readText_13 (by decide) (by first | exact Or.inl rfl | exact Or.inr ⟨_, rfl, rfl⟩) ?_
  have L14 : ∀ (n14 : Nat) (r b : Int) (σ1 : St), (8 - r).toNat < n14 → (0 ≤ r ∧ r ≤ 7) → (RF σ σ1) → (TOK σ1 5) → (0 ≤ σ1 10 0 ∧ σ1 10 0 ≤ σ 8 0) → (b = 0 ∨ b = 1) → (RI (σ 9) (σ 8 0) σ1 r b) → WG E ad 3 σ1 14 [some (.ref (ad 10)), some (.int (iI b)), some (.int (iI r))] [] := by
    intro n14
    induction n14 with
    | zero => intro r b σ1 hn; exact absurd hn (Nat.not_lt_zero _)
    | succ n14 ih14 =>
      intro r b σ1 hn14 hr7b hF hT5 hp1 hb01 hRI
      refine g_rg (fun hRL14 => ?_)
      refine g_iload2 X dX3_readText_14 ?_
      refine g_bipush X dX3_readText_15 (by decide +kernel) ?_
      refine g_icmp_ge (tgt := 108) X (by first | exact hRL14 _ _ | exact hR7 _ _ | exact hR2 _ _ | exact hR0 _ _ | assumption | (unfold InR; omega)) (by first | exact hRL14 _ _ | exact hR7 _ _ | exact hR2 _ _ | exact hR0 _ _ | assumption | (unfold InR; omega)) dX3_readText_17 (by decide) (fun h17 => ?_) (fun h17 => ?_)
      · skip
        exact g_vret X hr (by
    rcases hRI with ⟨hb0, hr6, -⟩ | ⟨hb1, n, W, hR, hD⟩
    · exfalso; omega
    · rw [hR]
      exact ⟨rfl, rfl, hT5, hF, hD⟩) dX3_readText_108
      · skip
        refine g_iload1 X dX3_readText_20 ?_
        refine g_if_ne (tgt := 108) X (by first | exact hRL14 _ _ | exact hR7 _ _ | exact hR2 _ _ | exact hR0 _ _ | assumption | (unfold InR; omega)) dX3_readText_21 (by decide) (fun h21 => ?_) (fun h21 => ?_)
        · skip
          exact g_vret X hr (by
    rcases hRI with ⟨hb0, hr6, -⟩ | ⟨hb1, n, W, hR, hD⟩
    · exfalso; omega
    · rw [hR]
      exact ⟨rfl, rfl, hT5, hF, hD⟩) dX3_readText_108
        · skip
          have hb0 : b = 0 := by omega
          rcases hRI with ⟨-, hr6, he1, hg, hpl, hwi, hRD⟩ | ⟨hb1, -⟩
          rotate_left
          · exfalso
            omega
          have e8 : σ1 8 0 = σ 8 0 := hF _ _ (by omega) (by omega)
          have e9 : σ1 9 = σ 9 := funext fun k => hF _ _ (by omega) (by omega)
          have hTX1 := hTX.of e8 (fun k => congrFun e9 k)
          have hwb := wiS_b (T := σ 9) (len := σ 8 0) h8.1
          have hw0 : r = 0 ∨ (1 ≤ σ1 (TB 5) 1 ∧ σ1 (TB 5) 1 ≤ 7) := by
            by_cases h : r = 0
            · exact Or.inl h
            · right; rw [hwi h]; exact hwb
          generalize hW : (if r = 0 then 7 else wiS (σ 9) (σ 8 0)) = W at hg
          have hWb : 1 ≤ W ∧ W ≤ 7 := by
            rw [← hW]; by_cases h : r = 0
            · rw [if_pos h]; omega
            · rw [if_neg h]; omega
          have hWw : r = 0 ∨ σ1 (TB 5) 1 = W := by
            by_cases h : r = 0
            · exact Or.inl h
            · right; rw [hwi h, ← hW, if_neg h]
          refine g_aload0 X dX3_readText_24 ?_
          refine g_iload2 X dX3_readText_25 ?_
          refine g_V1 X (k_X3_readRow E hTX1 (by omega) (by omega) (by omega) hw0) gX3_readText_X3_readRow rfl (by decide +kernel) (by decide) ob_10 (Nat.le_of_ble_eq_true rfl) dX3_readText_26 (fun σ26 hp26 => ?_)
          refine g_rg (fun hR26 => ?_)
          obtain ⟨s1, s2, s3, s4, s5, s6, s7⟩ := hp26
          rw [e8, e9] at s1 s2 s3 s4 s5 s6 s7
          obtain ⟨v1, v2, v3, v4, v5, v6⟩ := ro_w (T := σ 9) (len := σ 8 0) (p := σ1 10 0) hWw
          rw [v1] at s1
          rw [v2] at s2
          rw [v3] at s4 s7
          rw [v4, v5] at s5
          rw [v4] at s6
          have hNb := roN_b (T := σ 9) (len := σ 8 0) (r := r) (w := W) (p := σ1 10 0) (Or.inr hWb.1) hp1.2
          have hPb := roP_b (T := σ 9) (len := σ 8 0) (r := r) (w := W) (p := σ1 10 0) (Or.inr hWb.1) hp1.2
          have hM7 : rMo r W ≤ 7 := by
            unfold rMo; by_cases h : r = 0
            · rw [if_pos h]; omega
            · rw [if_neg h]; omega
          have hT2 : TOK σ26 5 := by
            refine ⟨?_, ?_, fun v a1 a2 => ?_, fun v j a1 a2 a3 a4 => ?_⟩
            · rw [s7 (TB 5) 0 (by unfold TB; omega) (by unfold TB TR; omega) (by unfold TB TI; omega) (by omega)]; exact hT5.1
            · rw [s3]; unfold roW; by_cases h : r = 0
              · rw [if_pos h, v3]; omega
              · rw [if_neg h]; exact hT5.2.1
            · by_cases hv : v = r
              · rw [hv]; by_cases hq : rqR (σ 9) (σ 8 0) r W (σ1 10 0) = 0
                · rw [s5 hq]; exact nV_b
                · rw [s6 hq]; exact hT5.2.2.1 r (by omega) (by omega)
              · rw [s7 (TI 5) v (by unfold TI; omega) (by unfold TI TR; omega) (by omega) (by unfold TI TB; omega)]; exact hT5.2.2.1 v a1 a2
            · by_cases hv : v = r ∧ j < roN (σ 9) (σ 8 0) r W (σ1 10 0)
              · rw [hv.1, s4 j a3 hv.2]; exact enV_b
              · rw [s7 (TR 5 v) j (by unfold TR; omega) (by unfold TR; omega) (by unfold TI TR; omega) (by unfold TR TB; omega)]; exact hT5.2.2.2 v j a1 a2 a3 a4
          have hF2 : RF σ σ26 := fun q k a1 a2 => by
            rw [s7 q k (by omega) (by unfold TR; omega) (by unfold TI; omega) (by unfold TB; omega)]; exact hF q k a1 a2
          have hgs := (rwG_s (T := σ 9) (len := σ 8 0) (p := σ1 10 0) (w := W) hr6).symm.trans hg
          have hD2 : roR (σ 9) (σ 8 0) r W (σ1 10 0) = 0 → roW (σ 9) (σ 8 0) r W (σ1 10 0) = wiS (σ 9) (σ 8 0) ∧ σ26 (TB 5) 1 = wiS (σ 9) (σ 8 0) ∧ RD (σ 9) (σ 8 0) σ26 (r + 1) := fun h0 => by
            obtain ⟨z1, z2, z3⟩ := ro_0 h0
            have hN : roN (σ 9) (σ 8 0) r W (σ1 10 0) = wiS (σ 9) (σ 8 0) := by
              by_cases h : r = 0
              · have e0 : σ1 10 0 = 0 := by rw [hpl, h]; rfl
                have e1 : W = 7 := by rw [← hW, if_pos h]
                rw [e0, e1, h]; rfl
              · have e1 : W = wiS (σ 9) (σ 8 0) := by rw [← hW, if_neg h]
                rcases z3 with z3 | z3
                · exact absurd z3 h
                · rw [z3, e1]
            have hWo : roW (σ 9) (σ 8 0) r W (σ1 10 0) = wiS (σ 9) (σ 8 0) := by
              unfold roW; by_cases h : r = 0
              · rw [if_pos h, hN]
              · rw [if_neg h, ← hW, if_neg h]
            refine ⟨hWo, ?_, fun v j a1 a2 a3 a4 => ?_, fun v a1 a2 => ?_⟩
            · rw [s3]; unfold roW; by_cases h : r = 0
              · rw [if_pos h, v3, hN]
              · rw [if_neg h, hwi h]
            · by_cases hv : v = r
              · rw [hv, s4 j a3 (by omega), hpl]; rfl
              · rw [s7 (TR 5 v) j (by unfold TR; omega) (by unfold TR; omega) (by unfold TI TR; omega) (by unfold TR TB; omega)]; exact hRD.1 v j a1 (by omega) a3 a4
            · by_cases hv : v = r
              · rw [hv, s5 z1, z2]
                unfold txD
                rw [hW, hpl]
              · rw [s7 (TI 5) v (by unfold TI; omega) (by unfold TI TR; omega) (by omega) (by unfold TI TB; omega)]; exact hRD.2 v a1 (by omega)
          refine g_aload0 X dX3_readText_29 ?_
          refine gf_3_found X i3 (by decide +kernel) dX3_readText_30 ?_
          refine g_iload2 X dX3_readText_33 ?_
          refine g_iconst X dX3_readText_34 ?_
          refine g_iadd X dX3_readText_35 ?_
          refine gp_4_workers X (by omega) i4 (by decide +kernel) (by first | exact hR26 _ _ | exact hRL14 _ _ | exact hR7 _ _ | exact hR2 _ _ | exact hR0 _ _ | assumption | (unfold InR; omega)) dX3_readText_36 ?_
          refine g_rg (fun hR36 => ?_)
          generalize hσ3 : up σ26 (TB 5) 0 (r + 1) = σ3
          have k3 : ∀ q k, ¬ (q = TB 5 ∧ k = 0) → σ3 q k = σ26 q k := fun q k h => by rw [← hσ3]; unfold up; rw [if_neg h]
          have k0 : σ3 (TB 5) 0 = r + 1 := by rw [← hσ3]; unfold up; rw [if_pos ⟨rfl, rfl⟩]
          have kp : σ3 10 0 = roP (σ 9) (σ 8 0) r W (σ1 10 0) := by rw [k3 _ _ (by unfold TB; omega)]; exact s1
          have kr : σ3 10 1 = roR (σ 9) (σ 8 0) r W (σ1 10 0) := by rw [k3 _ _ (by unfold TB; omega)]; exact s2
          have hT3 : TOK σ3 5 := ⟨by rw [k0]; omega, by rw [k3 _ _ (by omega)]; exact hT2.2.1, fun v a1 a2 => by rw [k3 _ _ (by unfold TI TB; omega)]; exact hT2.2.2.1 v a1 a2, fun v j a1 a2 a3 a4 => by rw [k3 _ _ (by unfold TR TB; omega)]; exact hT2.2.2.2 v j a1 a2 a3 a4⟩
          have hF3 : RF σ σ3 := fun q k a1 a2 => by rw [k3 q k (by unfold TB; omega)]; exact hF2 q k a1 a2
          have e38 : σ3 8 0 = σ 8 0 := hF3 _ _ (by omega) (by omega)
          have e39 : σ3 9 = σ 9 := funext fun k => hF3 _ _ (by omega) (by omega)
          have hTX3 := hTX.of e38 (fun k => congrFun e39 k)
          have hD3 : roR (σ 9) (σ 8 0) r W (σ1 10 0) = 0 → roW (σ 9) (σ 8 0) r W (σ1 10 0) = wiS (σ 9) (σ 8 0) ∧ σ3 (TB 5) 1 = wiS (σ 9) (σ 8 0) ∧ RD (σ 9) (σ 8 0) σ3 (r + 1) := fun h0 => by
            obtain ⟨z1, z2, z3⟩ := hD2 h0
            exact ⟨z1, by rw [k3 _ _ (by omega)]; exact z2, fun v j a1 a2 a3 a4 => by rw [k3 _ _ (by unfold TR TB; omega)]; exact z3.1 v j a1 a2 a3 a4, fun v a1 a2 => by rw [k3 _ _ (by unfold TI TB; omega)]; exact z3.2 v a1 a2⟩
          refine g_rg (fun hR39 => ?_)
          have J65 : ∀ c : Int, (c = 1 ∧ (roR (σ 9) (σ 8 0) r W (σ1 10 0) ≠ 0 ∨ roP (σ 9) (σ 8 0) r W (σ1 10 0) = σ 8 0)) ∨ (c = 0 ∧ roR (σ 9) (σ 8 0) r W (σ1 10 0) = 0 ∧ roP (σ 9) (σ 8 0) r W (σ1 10 0) ≠ σ 8 0) → WG E ad 3 σ3 65 [some (.ref (ad 10)), some (.int (iI b)), some (.int (iI r))] [.int (iI c)] := by
            intro c hcc
            refine g_istore1 X dX3_readText_65 (by decide) (by first | exact Or.inl rfl | exact Or.inr ⟨_, rfl, rfl⟩) ?_
            refine g_iload1 X dX3_readText_66 ?_
            refine g_if_ne (tgt := 102) X (by first | exact hR39 _ _ | exact hR36 _ _ | exact hR26 _ _ | exact hRL14 _ _ | exact hR7 _ _ | exact hR2 _ _ | exact hR0 _ _ | assumption | (unfold InR; omega)) dX3_readText_67 (by decide) (fun h67 => ?_) (fun h67 => ?_)
            · skip
              -- CLOSED
              refine g_iinc2 X dX3_readText_102 (by decide) (by first | exact Or.inl rfl | exact Or.inr ⟨_, rfl, rfl⟩) ?_
              refine g_goto (tgt := 14) X dX3_readText_105 (by decide) ?_
              refine ih14 _ _ _ (by omega) ?_ ?_ ?_ ?_ ?_ ?_
              · omega
              · exact hF3
              · exact hT3
              · rw [kp]; omega
              · omega
              · skip
                rcases hcc with ⟨hc1, hc2⟩ | ⟨hc1, hc2⟩
                · refine Or.inr ⟨hc1, ?_⟩
                  by_cases g0 : roR (σ 9) (σ 8 0) r W (σ1 10 0) = 0
                  · rw [if_neg (by omega), if_pos (by omega)] at hgs
                    obtain ⟨z1, z2, z3⟩ := hD3 g0
                    refine ⟨_, _, by rw [kp, kr, g0, show roP (σ 9) (σ 8 0) r W (σ1 10 0) = σ 8 0 by omega]; exact hgs.symm, fun _ => ⟨z1, k0, by omega, by omega, z2, z3⟩⟩
                  · rw [if_pos g0] at hgs
                    refine ⟨_, _, by rw [kp, kr]; exact hgs.symm, fun h => absurd (kr.symm.trans h) g0⟩
                · exfalso; omega
            · skip
              have hc0 : roR (σ 9) (σ 8 0) r W (σ1 10 0) = 0 ∧ roP (σ 9) (σ 8 0) r W (σ1 10 0) ≠ σ 8 0 := by omega
              rw [if_neg (by omega), if_neg hc0.2] at hgs
              have J86 : ∀ f : Int, f = (if r + 1 < 7 then 1 else 0) → WG E ad 3 σ3 86 [some (.ref (ad 10)), some (.int (iI c)), some (.int (iI r))] [.int (iI f), .int (iI 59), .ref (ad 10)] := by
                intro f hf
                rw [← hf] at hgs
                have hf01 : f = 0 ∨ f = 1 := by
                  rw [hf]; by_cases h : r + 1 < 7
                  · rw [if_pos h]; exact Or.inr rfl
                  · rw [if_neg h]; exact Or.inl rfl
                have hsb := stP_b (T := σ 9) (c := 59) (f := f) hPb.2
                have hsr := stR_b (T := σ 9) (len := σ 8 0) (p := roP (σ 9) (σ 8 0) r W (σ1 10 0)) (c := 59) (f := f)
                refine g_W2 X (k_X3_step E hTX3 (by omega) (by omega) (by omega) (by omega)) gX3_readText_X3_step rfl (by decide +kernel) (by decide) ob_10 (Nat.le_of_ble_eq_true rfl) dX3_readText_86 ?_
                refine g_rg (fun hR86 => ?_)
                rw [e38, e39, kp]
                generalize hσ4 : rdU σ3 (stP (σ 9) (σ 8 0) (roP (σ 9) (σ 8 0) r W (σ1 10 0)) 59 f) (stR (σ 9) (σ 8 0) (roP (σ 9) (σ 8 0) r W (σ1 10 0)) 59 f) = σ4
                obtain ⟨y1, y2, y3⟩ := rdU_at σ3 (stP (σ 9) (σ 8 0) (roP (σ 9) (σ 8 0) r W (σ1 10 0)) 59 f) (stR (σ 9) (σ 8 0) (roP (σ 9) (σ 8 0) r W (σ1 10 0)) 59 f)
                rw [hσ4] at y1 y2 y3
                refine g_rg (fun hR89 => ?_)
                refine g_aload0 X dX3_readText_89 ?_
                refine gf_3_reason X i3 (by decide +kernel) dX3_readText_90 ?_
                refine g_if_eq (tgt := 100) X (by first | exact hR89 _ _ | exact hR86 _ _ | exact hR39 _ _ | exact hR36 _ _ | exact hR26 _ _ | exact hRL14 _ _ | exact hR7 _ _ | exact hR2 _ _ | exact hR0 _ _ | assumption | (unfold InR; omega)) dX3_readText_93 (by decide) (fun h93 => ?_) (fun h93 => ?_)
                · skip
                  -- CLOSED
                  refine g_iconst X dX3_readText_100 ?_
                  refine g_istore1 X dX3_readText_101 (by decide) (by first | exact Or.inl rfl | exact Or.inr ⟨_, rfl, rfl⟩) ?_
                  refine g_iinc2 X dX3_readText_102 (by decide) (by first | exact Or.inl rfl | exact Or.inr ⟨_, rfl, rfl⟩) ?_
                  refine g_goto (tgt := 14) X dX3_readText_105 (by decide) ?_
                  refine ih14 _ _ _ (by omega) ?_ ?_ ?_ ?_ ?_ ?_
                  · omega
                  · exact fun q k a1 a2 => (y3 q k (by omega)).trans (hF3 q k a1 a2)
                  · exact ⟨by rw [y3 _ _ (by unfold TB; omega)]; exact hT3.1, by rw [y3 _ _ (by unfold TB; omega)]; exact hT3.2.1, fun v a1 a2 => by rw [y3 _ _ (by unfold TI; omega)]; exact hT3.2.2.1 v a1 a2, fun v j a1 a2 a3 a4 => by rw [y3 _ _ (by unfold TR; omega)]; exact hT3.2.2.2 v j a1 a2 a3 a4⟩
                  · rw [y1]; omega
                  · first | exact Or.inl rfl | exact Or.inr rfl
                  · skip
                    have hs0 : stR (σ 9) (σ 8 0) (roP (σ 9) (σ 8 0) r W (σ1 10 0)) 59 f = 0 := by omega
                    rw [if_neg (by omega)] at hgs
                    obtain ⟨z1, z2, z3⟩ := hD3 hc0.1
                    have hac : isAc (σ 9) (σ 8 0) (roP (σ 9) (σ 8 0) r W (σ1 10 0)) 59 ∧ f ≠ 0 := by
                      unfold stR at hs0
                      by_cases g1 : isAc (σ 9) (σ 8 0) (roP (σ 9) (σ 8 0) r W (σ1 10 0)) 59
                      · rw [if_pos g1] at hs0
                        by_cases g2 : f = 0
                        · rw [if_pos g2] at hs0; omega
                        · exact ⟨g1, g2⟩
                      · rw [if_neg g1] at hs0; omega
                    have hsp : stP (σ 9) (σ 8 0) (roP (σ 9) (σ 8 0) r W (σ1 10 0)) 59 f = roP (σ 9) (σ 8 0) r W (σ1 10 0) + 1 := by
                      unfold stP; rw [if_pos hac]
                    have hr7 : r + 1 < 7 := by
                      by_cases h : r + 1 < 7
                      · exact h
                      · rw [if_neg h] at hf; exact absurd hf hac.2
                    refine Or.inl ⟨rfl, hr7, by rw [y2]; exact hs0, ?_, ?_, fun _ => ?_, ?_, ?_⟩
                    · rw [y1, hsp, if_neg (by omega), ← z1]; exact hgs
                    · rw [y1, hsp, rpS_s hr7b.1, hW, hpl]
                    · rw [y3 _ _ (by unfold TB; omega)]; exact z2
                    · intro v j a1 a2 a3 a4; rw [y3 _ _ (by unfold TR; omega)]; exact z3.1 v j a1 a2 a3 a4
                    · intro v a1 a2; rw [y3 _ _ (by unfold TI; omega)]; exact z3.2 v a1 a2
                · skip
                  -- CLOSED
                  refine g_iconst X dX3_readText_96 ?_
                  refine g_goto (tgt := 101) X dX3_readText_97 (by decide) ?_
                  refine g_istore1 X dX3_readText_101 (by decide) (by first | exact Or.inl rfl | exact Or.inr ⟨_, rfl, rfl⟩) ?_
                  refine g_iinc2 X dX3_readText_102 (by decide) (by first | exact Or.inl rfl | exact Or.inr ⟨_, rfl, rfl⟩) ?_
                  refine g_goto (tgt := 14) X dX3_readText_105 (by decide) ?_
                  refine ih14 _ _ _ (by omega) ?_ ?_ ?_ ?_ ?_ ?_
                  · omega
                  · exact fun q k a1 a2 => (y3 q k (by omega)).trans (hF3 q k a1 a2)
                  · exact ⟨by rw [y3 _ _ (by unfold TB; omega)]; exact hT3.1, by rw [y3 _ _ (by unfold TB; omega)]; exact hT3.2.1, fun v a1 a2 => by rw [y3 _ _ (by unfold TI; omega)]; exact hT3.2.2.1 v a1 a2, fun v j a1 a2 a3 a4 => by rw [y3 _ _ (by unfold TR; omega)]; exact hT3.2.2.2 v j a1 a2 a3 a4⟩
                  · rw [y1]; omega
                  · first | exact Or.inl rfl | exact Or.inr rfl
                  · skip
                    have hs0 : stR (σ 9) (σ 8 0) (roP (σ 9) (σ 8 0) r W (σ1 10 0)) 59 f ≠ 0 := by omega
                    rw [if_pos hs0] at hgs
                    have hsp : stP (σ 9) (σ 8 0) (roP (σ 9) (σ 8 0) r W (σ1 10 0)) 59 f = roP (σ 9) (σ 8 0) r W (σ1 10 0) := by
                      unfold stP; rw [if_neg (fun h => hs0 (by unfold stR; rw [if_pos h.1, if_neg h.2]))]
                    refine Or.inr ⟨rfl, r + 1, roW (σ 9) (σ 8 0) r W (σ1 10 0), ?_, fun h => ?_⟩
                    rotate_left
                    · exact absurd (y2.symm.trans h) hs0
                    · rw [y1, y2, hsp]; exact hgs.symm
              refine g_aload0 X dX3_readText_70 ?_
              refine g_bipush X dX3_readText_71 (by decide +kernel) ?_
              refine g_iload2 X dX3_readText_73 ?_
              refine g_iconst X dX3_readText_74 ?_
              refine g_iadd X dX3_readText_75 ?_
              refine g_bipush X dX3_readText_76 (by decide +kernel) ?_
              refine g_icmp_ge (tgt := 85) X (by first | exact hR39 _ _ | exact hR36 _ _ | exact hR26 _ _ | exact hRL14 _ _ | exact hR7 _ _ | exact hR2 _ _ | exact hR0 _ _ | assumption | (unfold InR; omega)) (by first | exact hR39 _ _ | exact hR36 _ _ | exact hR26 _ _ | exact hRL14 _ _ | exact hR7 _ _ | exact hR2 _ _ | exact hR0 _ _ | assumption | (unfold InR; omega)) dX3_readText_78 (by decide) (fun h78 => ?_) (fun h78 => ?_)
              · skip
                refine g_iconst X dX3_readText_85 ?_
                exact J86 _ (by first | (rw [if_pos (by omega)]; done) | (rw [if_neg (by omega)]; done))
              · skip
                refine g_iconst X dX3_readText_81 ?_
                refine g_goto (tgt := 86) X dX3_readText_82 (by decide) ?_
                exact J86 _ (by first | (rw [if_pos (by omega)]; done) | (rw [if_neg (by omega)]; done))
          refine g_aload0 X dX3_readText_39 ?_
          refine gf_3_reason X i3 (by decide +kernel) dX3_readText_40 ?_
          refine g_if_ne (tgt := 60) X (by first | exact hR39 _ _ | exact hR36 _ _ | exact hR26 _ _ | exact hRL14 _ _ | exact hR7 _ _ | exact hR2 _ _ | exact hR0 _ _ | assumption | (unfold InR; omega)) dX3_readText_43 (by decide) (fun h43 => ?_) (fun h43 => ?_)
          · skip
            refine g_iconst X dX3_readText_60 ?_
            refine g_goto (tgt := 65) X dX3_readText_61 (by decide) ?_
            exact J65 _ (by omega)
          · skip
            refine g_aload0 X dX3_readText_46 ?_
            refine gf_3_place X i3 (by decide +kernel) dX3_readText_47 ?_
            refine g_aload0 X dX3_readText_50 ?_
            refine gf_3_text X i3 (by decide +kernel) dX3_readText_51 ?_
            refine gf_5_length X i5 (by decide +kernel) dX3_readText_54 ?_
            refine g_icmp_ne (tgt := 64) X (by first | exact hR39 _ _ | exact hR36 _ _ | exact hR26 _ _ | exact hRL14 _ _ | exact hR7 _ _ | exact hR2 _ _ | exact hR0 _ _ | assumption | (unfold InR; omega)) (by first | exact hR39 _ _ | exact hR36 _ _ | exact hR26 _ _ | exact hRL14 _ _ | exact hR7 _ _ | exact hR2 _ _ | exact hR0 _ _ | assumption | (unfold InR; omega)) dX3_readText_57 (by decide) (fun h57 => ?_) (fun h57 => ?_)
            · skip
              refine g_iconst X dX3_readText_64 ?_
              exact J65 _ (by omega)
            · skip
              refine g_iconst X dX3_readText_60 ?_
              refine g_goto (tgt := 65) X dX3_readText_61 (by decide) ?_
              exact J65 _ (by omega)
  refine L14 _ _ _ _ (Nat.lt_succ_self _) ?_ ?_ ?_ ?_ ?_ ?_
  · omega
  · intro q k a1 a2
    unfold up
    rw [if_neg (by omega), if_neg (by omega)]
  · exact ⟨by unfold up; rw [if_neg (by unfold TB; omega), if_neg (by unfold TB; omega)]; exact hT50.1, by unfold up; rw [if_neg (by unfold TB; omega), if_neg (by unfold TB; omega)]; exact hT50.2.1, fun v a1 a2 => by unfold up; rw [if_neg (by unfold TI; omega), if_neg (by unfold TI; omega)]; exact hT50.2.2.1 v a1 a2, fun v j a1 a2 a3 a4 => by unfold up; rw [if_neg (by unfold TR; omega), if_neg (by unfold TR; omega)]; exact hT50.2.2.2 v j a1 a2 a3 a4⟩
  · unfold up
    rw [if_neg (by omega), if_pos ⟨rfl, rfl⟩]
    omega
  · exact Or.inl rfl
  · refine Or.inl ⟨rfl, by omega, ?_, ?_, ?_, fun h => absurd rfl h, fun v j a1 a2 => by omega, fun v a1 a2 => by omega⟩
    · unfold up; rw [if_pos ⟨rfl, rfl⟩]
    · unfold up; rw [if_neg (by omega), if_pos ⟨rfl, rfl⟩, if_pos rfl]; rfl
    · unfold up; rw [if_neg (by omega), if_pos ⟨rfl, rfl⟩]; rfl
end
section
set_option maxRecDepth 20000 in
theorem ggX6_init_X4_init : GoodIn wsX6_init wsX4_init := goodIn_r _ [30, 31, 2, 3, 32, 33, 34, 35, 72, 73, 74, 75] (by decide +kernel) (by decide +kernel)
set_option maxRecDepth 20000 in
theorem gX6_init_X4_init : GoodIn wsX6_init (wsX4_init) := ggX6_init_X4_init
set_option maxRecDepth 20000 in
theorem ggX6_init_X0_init : GoodIn wsX6_init wsX0_init := goodIn_r _ [38, 39, 2, 3, 40, 41, 5, 6, 42, 29, 30, 31, 32, 33, 34, 35, 82, 83, 72, 73, 74, 75] (by decide +kernel) (by decide +kernel)
set_option maxRecDepth 20000 in
theorem gX6_init_X0_init : GoodIn wsX6_init (wsX0_init) := ggX6_init_X0_init
set_option maxRecDepth 20000 in
theorem ggX6_init_X1_init : GoodIn wsX6_init wsX1_init := goodIn_r _ [45, 46, 2, 3, 47, 32, 48, 49, 50, 84, 85, 86, 87] (by decide +kernel) (by decide +kernel)
set_option maxRecDepth 20000 in
theorem gX6_init_X1_init : GoodIn wsX6_init (wsX1_init) := ggX6_init_X1_init
set_option maxRecDepth 20000 in
theorem ggX6_init_X2_init : GoodIn wsX6_init wsX2_init := goodIn_r _ [53, 54, 2, 3, 55, 56, 32, 57, 88, 89, 90] (by decide +kernel) (by decide +kernel)
set_option maxRecDepth 20000 in
theorem gX6_init_X2_init : GoodIn wsX6_init (wsX2_init) := ggX6_init_X2_init
set_option maxRecDepth 20000 in
theorem ggX6_init_X5_init : GoodIn wsX6_init wsX5_init := goodIn_r _ [60, 61, 2, 3, 62, 63, 91, 92] (by decide +kernel) (by decide +kernel)
set_option maxRecDepth 20000 in
theorem gX6_init_X5_init : GoodIn wsX6_init (wsX5_init) := ggX6_init_X5_init
set_option maxRecDepth 20000 in
theorem ggX6_init_X3_init : GoodIn wsX6_init wsX3_init := goodIn_r _ [66, 67, 2, 3, 68, 69, 5, 6, 70, 71, 29, 30, 31, 32, 33, 34, 35, 93, 94, 95, 96, 72, 73, 74, 75] (by decide +kernel) (by decide +kernel)
set_option maxRecDepth 20000 in
theorem gX6_init_X3_init : GoodIn wsX6_init (wsX3_init) := ggX6_init_X3_init
theorem dX6_init_0 : decode cX6_init 0 = .ok (.aload_n 0, 1) := by decide +kernel
theorem dX6_init_1 : decode cX6_init 1 = .ok (.invokespecial 1, 3) := by decide +kernel
theorem dX6_init_4 : decode cX6_init 4 = .ok (.aload_n 0, 1) := by decide +kernel
theorem dX6_init_5 : decode cX6_init 5 = .ok (.new 7, 3) := by decide +kernel
theorem dX6_init_8 : decode cX6_init 8 = .ok (.dup, 1) := by decide +kernel
theorem dX6_init_9 : decode cX6_init 9 = .ok (.invokespecial 9, 3) := by decide +kernel
theorem dX6_init_12 : decode cX6_init 12 = .ok (.putfield 10, 3) := by decide +kernel
theorem dX6_init_15 : decode cX6_init 15 = .ok (.aload_n 0, 1) := by decide +kernel
theorem dX6_init_16 : decode cX6_init 16 = .ok (.new 16, 3) := by decide +kernel
theorem dX6_init_19 : decode cX6_init 19 = .ok (.dup, 1) := by decide +kernel
theorem dX6_init_20 : decode cX6_init 20 = .ok (.invokespecial 18, 3) := by decide +kernel
theorem dX6_init_23 : decode cX6_init 23 = .ok (.putfield 19, 3) := by decide +kernel
theorem dX6_init_26 : decode cX6_init 26 = .ok (.aload_n 0, 1) := by decide +kernel
theorem dX6_init_27 : decode cX6_init 27 = .ok (.new 23, 3) := by decide +kernel
theorem dX6_init_30 : decode cX6_init 30 = .ok (.dup, 1) := by decide +kernel
theorem dX6_init_31 : decode cX6_init 31 = .ok (.aload_n 0, 1) := by decide +kernel
theorem dX6_init_32 : decode cX6_init 32 = .ok (.getfield 10, 3) := by decide +kernel
theorem dX6_init_35 : decode cX6_init 35 = .ok (.invokespecial 25, 3) := by decide +kernel
theorem dX6_init_38 : decode cX6_init 38 = .ok (.putfield 28, 3) := by decide +kernel
theorem dX6_init_41 : decode cX6_init 41 = .ok (.aload_n 0, 1) := by decide +kernel
theorem dX6_init_42 : decode cX6_init 42 = .ok (.new 32, 3) := by decide +kernel
theorem dX6_init_45 : decode cX6_init 45 = .ok (.dup, 1) := by decide +kernel
theorem dX6_init_46 : decode cX6_init 46 = .ok (.aload_n 0, 1) := by decide +kernel
theorem dX6_init_47 : decode cX6_init 47 = .ok (.getfield 10, 3) := by decide +kernel
theorem dX6_init_50 : decode cX6_init 50 = .ok (.aload_n 0, 1) := by decide +kernel
theorem dX6_init_51 : decode cX6_init 51 = .ok (.getfield 28, 3) := by decide +kernel
theorem dX6_init_54 : decode cX6_init 54 = .ok (.invokespecial 34, 3) := by decide +kernel
theorem dX6_init_57 : decode cX6_init 57 = .ok (.putfield 37, 3) := by decide +kernel
theorem dX6_init_60 : decode cX6_init 60 = .ok (.aload_n 0, 1) := by decide +kernel
theorem dX6_init_61 : decode cX6_init 61 = .ok (.new 41, 3) := by decide +kernel
theorem dX6_init_64 : decode cX6_init 64 = .ok (.dup, 1) := by decide +kernel
theorem dX6_init_65 : decode cX6_init 65 = .ok (.invokespecial 43, 3) := by decide +kernel
theorem dX6_init_68 : decode cX6_init 68 = .ok (.putfield 44, 3) := by decide +kernel
theorem dX6_init_71 : decode cX6_init 71 = .ok (.aload_n 0, 1) := by decide +kernel
theorem dX6_init_72 : decode cX6_init 72 = .ok (.new 48, 3) := by decide +kernel
theorem dX6_init_75 : decode cX6_init 75 = .ok (.dup, 1) := by decide +kernel
theorem dX6_init_76 : decode cX6_init 76 = .ok (.aload_n 0, 1) := by decide +kernel
theorem dX6_init_77 : decode cX6_init 77 = .ok (.getfield 44, 3) := by decide +kernel
theorem dX6_init_80 : decode cX6_init 80 = .ok (.invokespecial 50, 3) := by decide +kernel
theorem dX6_init_83 : decode cX6_init 83 = .ok (.putfield 53, 3) := by decide +kernel
theorem dX6_init_86 : decode cX6_init 86 = .ok (.return_, 1) := by decide +kernel
set_option maxRecDepth 20000 in
theorem ggX6_worker_X6_isCost : GoodIn wsX6_worker wsX6_isCost := goodIn_r _ [7] (by decide +kernel) (by decide +kernel)
set_option maxRecDepth 20000 in
theorem gX6_worker_X6_isCost : GoodIn wsX6_worker (va_wsS RX6 57 yX6_isCost wsX6_isCost) := goodIn_app (goodIn_of _ (by decide +kernel)) ggX6_worker_X6_isCost
set_option maxRecDepth 20000 in
theorem ggX6_worker_X0_keep : GoodIn wsX6_worker wsX0_keep := goodIn_r _ [12, 13, 14, 15, 16, 17, 11, 18, 19, 20, 21, 22, 23, 24, 25, 26, 27, 42, 43, 38, 39, 40, 41] (by decide +kernel) (by decide +kernel)
set_option maxRecDepth 20000 in
theorem gX6_worker_X0_keep : GoodIn wsX6_worker (wsV RX6 65 RX0 yX0_keep wsX0_keep) := goodIn_app (goodIn_of _ (by decide +kernel)) ggX6_worker_X0_keep
set_option maxRecDepth 20000 in
theorem ggX6_worker_X4_addWorker : GoodIn wsX6_worker wsX4_addWorker := goodIn_r _ [31, 26, 24, 25, 27, 38, 39, 40, 41] (by decide +kernel) (by decide +kernel)
set_option maxRecDepth 20000 in
theorem gX6_worker_X4_addWorker : GoodIn wsX6_worker (wsV RX6 68 RX4 yX4_addWorker wsX4_addWorker) := goodIn_app (goodIn_of _ (by decide +kernel)) ggX6_worker_X4_addWorker
theorem dX6_worker_0 : decode cX6_worker 0 = .ok (.iload_n 1, 1) := by decide +kernel
theorem dX6_worker_1 : decode cX6_worker 1 = .ok (.invokestatic 57, 3) := by decide +kernel
theorem dX6_worker_4 : decode cX6_worker 4 = .ok (.ifCond .ne 5, 3) := by decide +kernel
theorem dX6_worker_7 : decode cX6_worker 7 = .ok (.iconst (-1), 1) := by decide +kernel
theorem dX6_worker_8 : decode cX6_worker 8 = .ok (.ireturn, 1) := by decide +kernel
theorem dX6_worker_9 : decode cX6_worker 9 = .ok (.aload_n 0, 1) := by decide +kernel
theorem dX6_worker_10 : decode cX6_worker 10 = .ok (.getfield 10, 3) := by decide +kernel
theorem dX6_worker_13 : decode cX6_worker 13 = .ok (.getfield 61, 3) := by decide +kernel
theorem dX6_worker_16 : decode cX6_worker 16 = .ok (.bipush 7, 2) := by decide +kernel
theorem dX6_worker_18 : decode cX6_worker 18 = .ok (.if_icmp .lt 6, 3) := by decide +kernel
theorem dX6_worker_21 : decode cX6_worker 21 = .ok (.bipush (-3), 2) := by decide +kernel
theorem dX6_worker_23 : decode cX6_worker 23 = .ok (.ireturn, 1) := by decide +kernel
theorem dX6_worker_24 : decode cX6_worker 24 = .ok (.aload_n 0, 1) := by decide +kernel
theorem dX6_worker_25 : decode cX6_worker 25 = .ok (.getfield 19, 3) := by decide +kernel
theorem dX6_worker_28 : decode cX6_worker 28 = .ok (.aload_n 0, 1) := by decide +kernel
theorem dX6_worker_29 : decode cX6_worker 29 = .ok (.getfield 10, 3) := by decide +kernel
theorem dX6_worker_32 : decode cX6_worker 32 = .ok (.invokevirtual 65, 3) := by decide +kernel
theorem dX6_worker_35 : decode cX6_worker 35 = .ok (.aload_n 0, 1) := by decide +kernel
theorem dX6_worker_36 : decode cX6_worker 36 = .ok (.getfield 10, 3) := by decide +kernel
theorem dX6_worker_39 : decode cX6_worker 39 = .ok (.iload_n 1, 1) := by decide +kernel
theorem dX6_worker_40 : decode cX6_worker 40 = .ok (.invokevirtual 68, 3) := by decide +kernel
theorem dX6_worker_43 : decode cX6_worker 43 = .ok (.aload_n 0, 1) := by decide +kernel
theorem dX6_worker_44 : decode cX6_worker 44 = .ok (.getfield 10, 3) := by decide +kernel
theorem dX6_worker_47 : decode cX6_worker 47 = .ok (.getfield 61, 3) := by decide +kernel
theorem dX6_worker_50 : decode cX6_worker 50 = .ok (.iconst 1, 1) := by decide +kernel
theorem dX6_worker_51 : decode cX6_worker 51 = .ok (.isub, 1) := by decide +kernel
theorem dX6_worker_52 : decode cX6_worker 52 = .ok (.ireturn, 1) := by decide +kernel
set_option maxRecDepth 20000 in
theorem ggX6_task_X0_keep : GoodIn wsX6_task wsX0_keep := goodIn_r _ [8, 9, 10, 11, 12, 13, 7, 14, 15, 16, 17, 18, 19, 20, 21, 22, 23, 38, 39, 34, 35, 36, 37] (by decide +kernel) (by decide +kernel)
set_option maxRecDepth 20000 in
theorem gX6_task_X0_keep : GoodIn wsX6_task (wsV RX6 65 RX0 yX0_keep wsX0_keep) := goodIn_app (goodIn_of _ (by decide +kernel)) ggX6_task_X0_keep
set_option maxRecDepth 20000 in
theorem ggX6_task_X4_addTask : GoodIn wsX6_task wsX4_addTask := goodIn_r _ [27, 20, 23, 21, 34, 35, 36, 37] (by decide +kernel) (by decide +kernel)
set_option maxRecDepth 20000 in
theorem gX6_task_X4_addTask : GoodIn wsX6_task (wsV RX6 75 RX4 yX4_addTask wsX4_addTask) := goodIn_app (goodIn_of _ (by decide +kernel)) ggX6_task_X4_addTask
theorem dX6_task_0 : decode cX6_task 0 = .ok (.aload_n 0, 1) := by decide +kernel
theorem dX6_task_1 : decode cX6_task 1 = .ok (.getfield 10, 3) := by decide +kernel
theorem dX6_task_4 : decode cX6_task 4 = .ok (.getfield 72, 3) := by decide +kernel
theorem dX6_task_7 : decode cX6_task 7 = .ok (.bipush 7, 2) := by decide +kernel
theorem dX6_task_9 : decode cX6_task 9 = .ok (.if_icmp .lt 6, 3) := by decide +kernel
theorem dX6_task_12 : decode cX6_task 12 = .ok (.bipush (-3), 2) := by decide +kernel
theorem dX6_task_14 : decode cX6_task 14 = .ok (.ireturn, 1) := by decide +kernel
theorem dX6_task_15 : decode cX6_task 15 = .ok (.aload_n 0, 1) := by decide +kernel
theorem dX6_task_16 : decode cX6_task 16 = .ok (.getfield 19, 3) := by decide +kernel
theorem dX6_task_19 : decode cX6_task 19 = .ok (.aload_n 0, 1) := by decide +kernel
theorem dX6_task_20 : decode cX6_task 20 = .ok (.getfield 10, 3) := by decide +kernel
theorem dX6_task_23 : decode cX6_task 23 = .ok (.invokevirtual 65, 3) := by decide +kernel
theorem dX6_task_26 : decode cX6_task 26 = .ok (.aload_n 0, 1) := by decide +kernel
theorem dX6_task_27 : decode cX6_task 27 = .ok (.getfield 10, 3) := by decide +kernel
theorem dX6_task_30 : decode cX6_task 30 = .ok (.invokevirtual 75, 3) := by decide +kernel
theorem dX6_task_33 : decode cX6_task 33 = .ok (.aload_n 0, 1) := by decide +kernel
theorem dX6_task_34 : decode cX6_task 34 = .ok (.getfield 10, 3) := by decide +kernel
theorem dX6_task_37 : decode cX6_task 37 = .ok (.getfield 72, 3) := by decide +kernel
theorem dX6_task_40 : decode cX6_task 40 = .ok (.iconst 1, 1) := by decide +kernel
theorem dX6_task_41 : decode cX6_task 41 = .ok (.isub, 1) := by decide +kernel
theorem dX6_task_42 : decode cX6_task 42 = .ok (.ireturn, 1) := by decide +kernel
set_option maxRecDepth 20000 in
theorem ggX6_dropWorker_X6_isWorker : GoodIn wsX6_dropWorker wsX6_isWorker := goodIn_r _ [8, 2, 3, 33, 34, 35, 36, 37, 38, 39, 40, 41, 42] (by decide +kernel) (by decide +kernel)
set_option maxRecDepth 20000 in
theorem gX6_dropWorker_X6_isWorker : GoodIn wsX6_dropWorker (wsV RX6 78 RX6 yX6_isWorker wsX6_isWorker) := goodIn_app (goodIn_of _ (by decide +kernel)) ggX6_dropWorker_X6_isWorker
set_option maxRecDepth 20000 in
theorem ggX6_dropWorker_X0_keep : GoodIn wsX6_dropWorker wsX0_keep := goodIn_r _ [13, 14, 15, 16, 17, 18, 12, 19, 20, 21, 22, 23, 24, 25, 26, 27, 28, 43, 44, 39, 40, 41, 42] (by decide +kernel) (by decide +kernel)
set_option maxRecDepth 20000 in
theorem gX6_dropWorker_X0_keep : GoodIn wsX6_dropWorker (wsV RX6 65 RX0 yX0_keep wsX0_keep) := goodIn_app (goodIn_of _ (by decide +kernel)) ggX6_dropWorker_X0_keep
set_option maxRecDepth 20000 in
theorem ggX6_dropWorker_X4_removeWorker : GoodIn wsX6_dropWorker wsX4_removeWorker := goodIn_r _ [32, 25, 27, 26, 28, 39, 40, 41, 42] (by decide +kernel) (by decide +kernel)
set_option maxRecDepth 20000 in
theorem gX6_dropWorker_X4_removeWorker : GoodIn wsX6_dropWorker (wsV RX6 81 RX4 yX4_removeWorker wsX4_removeWorker) := goodIn_app (goodIn_of _ (by decide +kernel)) ggX6_dropWorker_X4_removeWorker
theorem dX6_dropWorker_0 : decode cX6_dropWorker 0 = .ok (.aload_n 0, 1) := by decide +kernel
theorem dX6_dropWorker_1 : decode cX6_dropWorker 1 = .ok (.iload_n 1, 1) := by decide +kernel
theorem dX6_dropWorker_2 : decode cX6_dropWorker 2 = .ok (.invokevirtual 78, 3) := by decide +kernel
theorem dX6_dropWorker_5 : decode cX6_dropWorker 5 = .ok (.ifCond .ne 5, 3) := by decide +kernel
theorem dX6_dropWorker_8 : decode cX6_dropWorker 8 = .ok (.iconst (-1), 1) := by decide +kernel
theorem dX6_dropWorker_9 : decode cX6_dropWorker 9 = .ok (.ireturn, 1) := by decide +kernel
theorem dX6_dropWorker_10 : decode cX6_dropWorker 10 = .ok (.aload_n 0, 1) := by decide +kernel
theorem dX6_dropWorker_11 : decode cX6_dropWorker 11 = .ok (.getfield 19, 3) := by decide +kernel
theorem dX6_dropWorker_14 : decode cX6_dropWorker 14 = .ok (.aload_n 0, 1) := by decide +kernel
theorem dX6_dropWorker_15 : decode cX6_dropWorker 15 = .ok (.getfield 10, 3) := by decide +kernel
theorem dX6_dropWorker_18 : decode cX6_dropWorker 18 = .ok (.invokevirtual 65, 3) := by decide +kernel
theorem dX6_dropWorker_21 : decode cX6_dropWorker 21 = .ok (.aload_n 0, 1) := by decide +kernel
theorem dX6_dropWorker_22 : decode cX6_dropWorker 22 = .ok (.getfield 10, 3) := by decide +kernel
theorem dX6_dropWorker_25 : decode cX6_dropWorker 25 = .ok (.iload_n 1, 1) := by decide +kernel
theorem dX6_dropWorker_26 : decode cX6_dropWorker 26 = .ok (.invokevirtual 81, 3) := by decide +kernel
theorem dX6_dropWorker_29 : decode cX6_dropWorker 29 = .ok (.aload_n 0, 1) := by decide +kernel
theorem dX6_dropWorker_30 : decode cX6_dropWorker 30 = .ok (.getfield 10, 3) := by decide +kernel
theorem dX6_dropWorker_33 : decode cX6_dropWorker 33 = .ok (.getfield 61, 3) := by decide +kernel
theorem dX6_dropWorker_36 : decode cX6_dropWorker 36 = .ok (.ireturn, 1) := by decide +kernel
set_option maxRecDepth 20000 in
theorem ggX6_dropTask_X6_isTask : GoodIn wsX6_dropTask wsX6_isTask := goodIn_r _ [8, 2, 3, 33, 34, 35, 36, 37, 38, 39, 40, 41, 42] (by decide +kernel) (by decide +kernel)
set_option maxRecDepth 20000 in
theorem gX6_dropTask_X6_isTask : GoodIn wsX6_dropTask (wsV RX6 84 RX6 yX6_isTask wsX6_isTask) := goodIn_app (goodIn_of _ (by decide +kernel)) ggX6_dropTask_X6_isTask
set_option maxRecDepth 20000 in
theorem ggX6_dropTask_X0_keep : GoodIn wsX6_dropTask wsX0_keep := goodIn_r _ [13, 14, 15, 16, 17, 18, 12, 19, 20, 21, 22, 23, 24, 25, 26, 27, 28, 43, 44, 39, 40, 41, 42] (by decide +kernel) (by decide +kernel)
set_option maxRecDepth 20000 in
theorem gX6_dropTask_X0_keep : GoodIn wsX6_dropTask (wsV RX6 65 RX0 yX0_keep wsX0_keep) := goodIn_app (goodIn_of _ (by decide +kernel)) ggX6_dropTask_X0_keep
set_option maxRecDepth 20000 in
theorem ggX6_dropTask_X4_removeTask : GoodIn wsX6_dropTask wsX4_removeTask := goodIn_r _ [32, 26, 25, 28, 39, 40, 41, 42] (by decide +kernel) (by decide +kernel)
set_option maxRecDepth 20000 in
theorem gX6_dropTask_X4_removeTask : GoodIn wsX6_dropTask (wsV RX6 87 RX4 yX4_removeTask wsX4_removeTask) := goodIn_app (goodIn_of _ (by decide +kernel)) ggX6_dropTask_X4_removeTask
theorem dX6_dropTask_0 : decode cX6_dropTask 0 = .ok (.aload_n 0, 1) := by decide +kernel
theorem dX6_dropTask_1 : decode cX6_dropTask 1 = .ok (.iload_n 1, 1) := by decide +kernel
theorem dX6_dropTask_2 : decode cX6_dropTask 2 = .ok (.invokevirtual 84, 3) := by decide +kernel
theorem dX6_dropTask_5 : decode cX6_dropTask 5 = .ok (.ifCond .ne 5, 3) := by decide +kernel
theorem dX6_dropTask_8 : decode cX6_dropTask 8 = .ok (.iconst (-1), 1) := by decide +kernel
theorem dX6_dropTask_9 : decode cX6_dropTask 9 = .ok (.ireturn, 1) := by decide +kernel
theorem dX6_dropTask_10 : decode cX6_dropTask 10 = .ok (.aload_n 0, 1) := by decide +kernel
theorem dX6_dropTask_11 : decode cX6_dropTask 11 = .ok (.getfield 19, 3) := by decide +kernel
theorem dX6_dropTask_14 : decode cX6_dropTask 14 = .ok (.aload_n 0, 1) := by decide +kernel
theorem dX6_dropTask_15 : decode cX6_dropTask 15 = .ok (.getfield 10, 3) := by decide +kernel
theorem dX6_dropTask_18 : decode cX6_dropTask 18 = .ok (.invokevirtual 65, 3) := by decide +kernel
theorem dX6_dropTask_21 : decode cX6_dropTask 21 = .ok (.aload_n 0, 1) := by decide +kernel
theorem dX6_dropTask_22 : decode cX6_dropTask 22 = .ok (.getfield 10, 3) := by decide +kernel
theorem dX6_dropTask_25 : decode cX6_dropTask 25 = .ok (.iload_n 1, 1) := by decide +kernel
theorem dX6_dropTask_26 : decode cX6_dropTask 26 = .ok (.invokevirtual 87, 3) := by decide +kernel
theorem dX6_dropTask_29 : decode cX6_dropTask 29 = .ok (.aload_n 0, 1) := by decide +kernel
theorem dX6_dropTask_30 : decode cX6_dropTask 30 = .ok (.getfield 10, 3) := by decide +kernel
theorem dX6_dropTask_33 : decode cX6_dropTask 33 = .ok (.getfield 72, 3) := by decide +kernel
theorem dX6_dropTask_36 : decode cX6_dropTask 36 = .ok (.ireturn, 1) := by decide +kernel
set_option maxRecDepth 20000 in
theorem ggX6_cost_X6_isWorker : GoodIn wsX6_cost wsX6_isWorker := goodIn_r _ [6, 7, 8, 80, 81, 82, 83, 84, 85, 86, 87, 88, 89] (by decide +kernel) (by decide +kernel)
set_option maxRecDepth 20000 in
theorem gX6_cost_X6_isWorker : GoodIn wsX6_cost (wsV RX6 78 RX6 yX6_isWorker wsX6_isWorker) := goodIn_app (goodIn_of _ (by decide +kernel)) ggX6_cost_X6_isWorker
set_option maxRecDepth 20000 in
theorem ggX6_cost_X6_isTask : GoodIn wsX6_cost wsX6_isTask := goodIn_r _ [12, 7, 13, 80, 81, 82, 83, 84, 85, 86, 87, 88, 89] (by decide +kernel) (by decide +kernel)
set_option maxRecDepth 20000 in
theorem gX6_cost_X6_isTask : GoodIn wsX6_cost (wsV RX6 84 RX6 yX6_isTask wsX6_isTask) := goodIn_app (goodIn_of _ (by decide +kernel)) ggX6_cost_X6_isTask
set_option maxRecDepth 20000 in
theorem ggX6_cost_X6_isCost : GoodIn wsX6_cost wsX6_isCost := goodIn_r _ [16] (by decide +kernel) (by decide +kernel)
set_option maxRecDepth 20000 in
theorem gX6_cost_X6_isCost : GoodIn wsX6_cost (va_wsS RX6 57 yX6_isCost wsX6_isCost) := goodIn_app (goodIn_of _ (by decide +kernel)) ggX6_cost_X6_isCost
set_option maxRecDepth 20000 in
theorem ggX6_cost_X6_changePair : GoodIn wsX6_cost wsX6_changePair := goodIn_r _ [20, 21, 22, 7, 23, 24, 25, 26, 27, 28, 29, 30, 31, 32, 33, 34, 35, 36, 37, 38, 39, 40, 41, 42, 43, 44, 45, 46, 47, 48, 49, 50, 51, 52, 53, 54, 55, 56, 57, 58, 59, 60, 61, 62, 63, 64, 65, 66, 67, 68, 69, 70, 71, 72, 73, 74, 75, 76, 77, 78, 79, 80, 81, 82, 83, 84, 85, 86, 87, 88, 89, 90, 91, 92, 93, 94, 95] (by decide +kernel) (by decide +kernel)
set_option maxRecDepth 20000 in
theorem gX6_cost_X6_changePair : GoodIn wsX6_cost (wsV RX6 91 RX6 yX6_changePair wsX6_changePair) := goodIn_app (goodIn_of _ (by decide +kernel)) ggX6_cost_X6_changePair
theorem dX6_cost_0 : decode cX6_cost 0 = .ok (.aload_n 0, 1) := by decide +kernel
theorem dX6_cost_1 : decode cX6_cost 1 = .ok (.iload_n 1, 1) := by decide +kernel
theorem dX6_cost_2 : decode cX6_cost 2 = .ok (.invokevirtual 78, 3) := by decide +kernel
theorem dX6_cost_5 : decode cX6_cost 5 = .ok (.ifCond .eq 18, 3) := by decide +kernel
theorem dX6_cost_8 : decode cX6_cost 8 = .ok (.aload_n 0, 1) := by decide +kernel
theorem dX6_cost_9 : decode cX6_cost 9 = .ok (.iload_n 2, 1) := by decide +kernel
theorem dX6_cost_10 : decode cX6_cost 10 = .ok (.invokevirtual 84, 3) := by decide +kernel
theorem dX6_cost_13 : decode cX6_cost 13 = .ok (.ifCond .eq 10, 3) := by decide +kernel
theorem dX6_cost_16 : decode cX6_cost 16 = .ok (.iload_n 3, 1) := by decide +kernel
theorem dX6_cost_17 : decode cX6_cost 17 = .ok (.invokestatic 57, 3) := by decide +kernel
theorem dX6_cost_20 : decode cX6_cost 20 = .ok (.ifCond .ne 5, 3) := by decide +kernel
theorem dX6_cost_23 : decode cX6_cost 23 = .ok (.iconst (-1), 1) := by decide +kernel
theorem dX6_cost_24 : decode cX6_cost 24 = .ok (.ireturn, 1) := by decide +kernel
theorem dX6_cost_25 : decode cX6_cost 25 = .ok (.ldc 90, 2) := by decide +kernel
theorem dX6_cost_27 : decode cX6_cost 27 = .ok (.aload_n 0, 1) := by decide +kernel
theorem dX6_cost_28 : decode cX6_cost 28 = .ok (.iload_n 1, 1) := by decide +kernel
theorem dX6_cost_29 : decode cX6_cost 29 = .ok (.iload_n 2, 1) := by decide +kernel
theorem dX6_cost_30 : decode cX6_cost 30 = .ok (.iload_n 3, 1) := by decide +kernel
theorem dX6_cost_31 : decode cX6_cost 31 = .ok (.invokevirtual 91, 3) := by decide +kernel
theorem dX6_cost_34 : decode cX6_cost 34 = .ok (.iadd, 1) := by decide +kernel
theorem dX6_cost_35 : decode cX6_cost 35 = .ok (.ireturn, 1) := by decide +kernel
set_option maxRecDepth 20000 in
theorem ggX6_bar_X6_isWorker : GoodIn wsX6_bar wsX6_isWorker := goodIn_r _ [6, 1, 7, 80, 81, 82, 83, 84, 85, 86, 87, 88, 89] (by decide +kernel) (by decide +kernel)
set_option maxRecDepth 20000 in
theorem gX6_bar_X6_isWorker : GoodIn wsX6_bar (wsV RX6 78 RX6 yX6_isWorker wsX6_isWorker) := goodIn_app (goodIn_of _ (by decide +kernel)) ggX6_bar_X6_isWorker
set_option maxRecDepth 20000 in
theorem ggX6_bar_X6_isTask : GoodIn wsX6_bar wsX6_isTask := goodIn_r _ [11, 1, 12, 80, 81, 82, 83, 84, 85, 86, 87, 88, 89] (by decide +kernel) (by decide +kernel)
set_option maxRecDepth 20000 in
theorem gX6_bar_X6_isTask : GoodIn wsX6_bar (wsV RX6 84 RX6 yX6_isTask wsX6_isTask) := goodIn_app (goodIn_of _ (by decide +kernel)) ggX6_bar_X6_isTask
set_option maxRecDepth 20000 in
theorem ggX6_bar_X4_isBarred : GoodIn wsX6_bar wsX4_isBarred := goodIn_r _ [17, 18, 86, 87, 88, 89] (by decide +kernel) (by decide +kernel)
set_option maxRecDepth 20000 in
theorem gX6_bar_X4_isBarred : GoodIn wsX6_bar (wsV RX6 95 RX4 yX4_isBarred wsX4_isBarred) := goodIn_app (goodIn_of _ (by decide +kernel)) ggX6_bar_X4_isBarred
set_option maxRecDepth 20000 in
theorem ggX6_bar_X6_changePair : GoodIn wsX6_bar wsX6_changePair := goodIn_r _ [22, 23, 24, 1, 25, 26, 27, 28, 29, 30, 31, 32, 33, 34, 16, 35, 36, 37, 38, 39, 40, 41, 42, 43, 44, 45, 46, 47, 48, 49, 50, 51, 52, 53, 54, 55, 56, 57, 58, 59, 60, 61, 62, 63, 64, 65, 66, 67, 68, 69, 70, 71, 72, 73, 74, 75, 76, 77, 78, 79, 18, 80, 81, 82, 83, 84, 85, 86, 87, 88, 89, 90, 91, 92, 93, 94, 95] (by decide +kernel) (by decide +kernel)
set_option maxRecDepth 20000 in
theorem gX6_bar_X6_changePair : GoodIn wsX6_bar (wsV RX6 91 RX6 yX6_changePair wsX6_changePair) := goodIn_app (goodIn_of _ (by decide +kernel)) ggX6_bar_X6_changePair
theorem dX6_bar_0 : decode cX6_bar 0 = .ok (.aload_n 0, 1) := by decide +kernel
theorem dX6_bar_1 : decode cX6_bar 1 = .ok (.iload_n 1, 1) := by decide +kernel
theorem dX6_bar_2 : decode cX6_bar 2 = .ok (.invokevirtual 78, 3) := by decide +kernel
theorem dX6_bar_5 : decode cX6_bar 5 = .ok (.ifCond .eq 11, 3) := by decide +kernel
theorem dX6_bar_8 : decode cX6_bar 8 = .ok (.aload_n 0, 1) := by decide +kernel
theorem dX6_bar_9 : decode cX6_bar 9 = .ok (.iload_n 2, 1) := by decide +kernel
theorem dX6_bar_10 : decode cX6_bar 10 = .ok (.invokevirtual 84, 3) := by decide +kernel
theorem dX6_bar_13 : decode cX6_bar 13 = .ok (.ifCond .ne 5, 3) := by decide +kernel
theorem dX6_bar_16 : decode cX6_bar 16 = .ok (.iconst (-1), 1) := by decide +kernel
theorem dX6_bar_17 : decode cX6_bar 17 = .ok (.ireturn, 1) := by decide +kernel
theorem dX6_bar_18 : decode cX6_bar 18 = .ok (.aload_n 0, 1) := by decide +kernel
theorem dX6_bar_19 : decode cX6_bar 19 = .ok (.getfield 10, 3) := by decide +kernel
theorem dX6_bar_22 : decode cX6_bar 22 = .ok (.iload_n 1, 1) := by decide +kernel
theorem dX6_bar_23 : decode cX6_bar 23 = .ok (.iload_n 2, 1) := by decide +kernel
theorem dX6_bar_24 : decode cX6_bar 24 = .ok (.invokevirtual 95, 3) := by decide +kernel
theorem dX6_bar_27 : decode cX6_bar 27 = .ok (.ifCond .eq 6, 3) := by decide +kernel
theorem dX6_bar_30 : decode cX6_bar 30 = .ok (.bipush (-2), 2) := by decide +kernel
theorem dX6_bar_32 : decode cX6_bar 32 = .ok (.ireturn, 1) := by decide +kernel
theorem dX6_bar_33 : decode cX6_bar 33 = .ok (.aload_n 0, 1) := by decide +kernel
theorem dX6_bar_34 : decode cX6_bar 34 = .ok (.iload_n 1, 1) := by decide +kernel
theorem dX6_bar_35 : decode cX6_bar 35 = .ok (.iload_n 2, 1) := by decide +kernel
theorem dX6_bar_36 : decode cX6_bar 36 = .ok (.iconst (-1), 1) := by decide +kernel
theorem dX6_bar_37 : decode cX6_bar 37 = .ok (.invokevirtual 91, 3) := by decide +kernel
theorem dX6_bar_40 : decode cX6_bar 40 = .ok (.ireturn, 1) := by decide +kernel
set_option maxRecDepth 20000 in
theorem ggX6_idle_X6_isWorker : GoodIn wsX6_idle wsX6_isWorker := goodIn_r _ [8, 2, 9, 33, 34, 35, 36, 37, 38, 39, 40, 41, 42] (by decide +kernel) (by decide +kernel)
set_option maxRecDepth 20000 in
theorem gX6_idle_X6_isWorker : GoodIn wsX6_idle (wsV RX6 78 RX6 yX6_isWorker wsX6_isWorker) := goodIn_app (goodIn_of _ (by decide +kernel)) ggX6_idle_X6_isWorker
set_option maxRecDepth 20000 in
theorem ggX6_idle_X6_isCost : GoodIn wsX6_idle wsX6_isCost := goodIn_r _ [12] (by decide +kernel) (by decide +kernel)
set_option maxRecDepth 20000 in
theorem gX6_idle_X6_isCost : GoodIn wsX6_idle (va_wsS RX6 57 yX6_isCost wsX6_isCost) := goodIn_app (goodIn_of _ (by decide +kernel)) ggX6_idle_X6_isCost
set_option maxRecDepth 20000 in
theorem ggX6_idle_X0_keep : GoodIn wsX6_idle wsX0_keep := goodIn_r _ [17, 18, 19, 20, 21, 22, 16, 23, 24, 25, 26, 27, 28, 29, 30, 31, 32, 43, 44, 39, 40, 41, 42] (by decide +kernel) (by decide +kernel)
set_option maxRecDepth 20000 in
theorem gX6_idle_X0_keep : GoodIn wsX6_idle (wsV RX6 65 RX0 yX0_keep wsX0_keep) := goodIn_app (goodIn_of _ (by decide +kernel)) ggX6_idle_X0_keep
theorem dX6_idle_0 : decode cX6_idle 0 = .ok (.aload_n 0, 1) := by decide +kernel
theorem dX6_idle_1 : decode cX6_idle 1 = .ok (.iload_n 1, 1) := by decide +kernel
theorem dX6_idle_2 : decode cX6_idle 2 = .ok (.invokevirtual 78, 3) := by decide +kernel
theorem dX6_idle_5 : decode cX6_idle 5 = .ok (.ifCond .eq 10, 3) := by decide +kernel
theorem dX6_idle_8 : decode cX6_idle 8 = .ok (.iload_n 2, 1) := by decide +kernel
theorem dX6_idle_9 : decode cX6_idle 9 = .ok (.invokestatic 57, 3) := by decide +kernel
theorem dX6_idle_12 : decode cX6_idle 12 = .ok (.ifCond .ne 5, 3) := by decide +kernel
theorem dX6_idle_15 : decode cX6_idle 15 = .ok (.iconst (-1), 1) := by decide +kernel
theorem dX6_idle_16 : decode cX6_idle 16 = .ok (.ireturn, 1) := by decide +kernel
theorem dX6_idle_17 : decode cX6_idle 17 = .ok (.aload_n 0, 1) := by decide +kernel
theorem dX6_idle_18 : decode cX6_idle 18 = .ok (.getfield 19, 3) := by decide +kernel
theorem dX6_idle_21 : decode cX6_idle 21 = .ok (.aload_n 0, 1) := by decide +kernel
theorem dX6_idle_22 : decode cX6_idle 22 = .ok (.getfield 10, 3) := by decide +kernel
theorem dX6_idle_25 : decode cX6_idle 25 = .ok (.invokevirtual 65, 3) := by decide +kernel
theorem dX6_idle_28 : decode cX6_idle 28 = .ok (.aload_n 0, 1) := by decide +kernel
theorem dX6_idle_29 : decode cX6_idle 29 = .ok (.getfield 10, 3) := by decide +kernel
theorem dX6_idle_32 : decode cX6_idle 32 = .ok (.getfield 99, 3) := by decide +kernel
theorem dX6_idle_35 : decode cX6_idle 35 = .ok (.iload_n 1, 1) := by decide +kernel
theorem dX6_idle_36 : decode cX6_idle 36 = .ok (.iaload, 1) := by decide +kernel
theorem dX6_idle_37 : decode cX6_idle 37 = .ok (.istore_n 3, 1) := by decide +kernel
theorem dX6_idle_38 : decode cX6_idle 38 = .ok (.aload_n 0, 1) := by decide +kernel
theorem dX6_idle_39 : decode cX6_idle 39 = .ok (.getfield 10, 3) := by decide +kernel
theorem dX6_idle_42 : decode cX6_idle 42 = .ok (.getfield 99, 3) := by decide +kernel
theorem dX6_idle_45 : decode cX6_idle 45 = .ok (.iload_n 1, 1) := by decide +kernel
theorem dX6_idle_46 : decode cX6_idle 46 = .ok (.iload_n 2, 1) := by decide +kernel
theorem dX6_idle_47 : decode cX6_idle 47 = .ok (.iastore, 1) := by decide +kernel
theorem dX6_idle_48 : decode cX6_idle 48 = .ok (.iload_n 3, 1) := by decide +kernel
theorem dX6_idle_49 : decode cX6_idle 49 = .ok (.ireturn, 1) := by decide +kernel
set_option maxRecDepth 20000 in
theorem ggX6_times_X6_isWorker : GoodIn wsX6_times wsX6_isWorker := goodIn_r _ [9, 2, 10, 47, 48, 49, 50, 51, 52, 53, 54, 55, 56] (by decide +kernel) (by decide +kernel)
set_option maxRecDepth 20000 in
theorem gX6_times_X6_isWorker : GoodIn wsX6_times (wsV RX6 78 RX6 yX6_isWorker wsX6_isWorker) := goodIn_app (goodIn_of _ (by decide +kernel)) ggX6_times_X6_isWorker
set_option maxRecDepth 20000 in
theorem ggX6_times_X4_greatestCost : GoodIn wsX6_times wsX4_greatestCost := goodIn_r _ [15, 16, 17, 18, 19, 20, 21, 22, 53, 54, 55, 56] (by decide +kernel) (by decide +kernel)
set_option maxRecDepth 20000 in
theorem gX6_times_X4_greatestCost : GoodIn wsX6_times (wsV RX6 104 RX4 yX4_greatestCost wsX4_greatestCost) := goodIn_app (goodIn_of _ (by decide +kernel)) ggX6_times_X4_greatestCost
set_option maxRecDepth 20000 in
theorem ggX6_times_X0_keep : GoodIn wsX6_times wsX0_keep := goodIn_r _ [27, 28, 29, 30, 31, 32, 26, 33, 34, 35, 36, 14, 37, 38, 17, 16, 18, 57, 58, 53, 54, 55, 56] (by decide +kernel) (by decide +kernel)
set_option maxRecDepth 20000 in
theorem gX6_times_X0_keep : GoodIn wsX6_times (wsV RX6 65 RX0 yX0_keep wsX0_keep) := goodIn_app (goodIn_of _ (by decide +kernel)) ggX6_times_X0_keep
set_option maxRecDepth 20000 in
theorem ggX6_times_X4_multiplyCosts : GoodIn wsX6_times wsX4_multiplyCosts := goodIn_r _ [42, 16, 17, 18, 43, 44, 45, 14, 46, 53, 54, 55, 56] (by decide +kernel) (by decide +kernel)
set_option maxRecDepth 20000 in
theorem gX6_times_X4_multiplyCosts : GoodIn wsX6_times (wsV RX6 110 RX4 yX4_multiplyCosts wsX4_multiplyCosts) := goodIn_app (goodIn_of _ (by decide +kernel)) ggX6_times_X4_multiplyCosts
theorem dX6_times_0 : decode cX6_times 0 = .ok (.aload_n 0, 1) := by decide +kernel
theorem dX6_times_1 : decode cX6_times 1 = .ok (.iload_n 1, 1) := by decide +kernel
theorem dX6_times_2 : decode cX6_times 2 = .ok (.invokevirtual 78, 3) := by decide +kernel
theorem dX6_times_5 : decode cX6_times 5 = .ok (.ifCond .eq 13, 3) := by decide +kernel
theorem dX6_times_8 : decode cX6_times 8 = .ok (.iload_n 2, 1) := by decide +kernel
theorem dX6_times_9 : decode cX6_times 9 = .ok (.ifCond .lt 9, 3) := by decide +kernel
theorem dX6_times_12 : decode cX6_times 12 = .ok (.iload_n 2, 1) := by decide +kernel
theorem dX6_times_13 : decode cX6_times 13 = .ok (.ldc 103, 2) := by decide +kernel
theorem dX6_times_15 : decode cX6_times 15 = .ok (.if_icmp .le 5, 3) := by decide +kernel
theorem dX6_times_18 : decode cX6_times 18 = .ok (.iconst (-1), 1) := by decide +kernel
theorem dX6_times_19 : decode cX6_times 19 = .ok (.ireturn, 1) := by decide +kernel
theorem dX6_times_20 : decode cX6_times 20 = .ok (.aload_n 0, 1) := by decide +kernel
theorem dX6_times_21 : decode cX6_times 21 = .ok (.getfield 10, 3) := by decide +kernel
theorem dX6_times_24 : decode cX6_times 24 = .ok (.iload_n 1, 1) := by decide +kernel
theorem dX6_times_25 : decode cX6_times 25 = .ok (.invokevirtual 104, 3) := by decide +kernel
theorem dX6_times_28 : decode cX6_times 28 = .ok (.i2l, 1) := by decide +kernel
theorem dX6_times_29 : decode cX6_times 29 = .ok (.iload_n 2, 1) := by decide +kernel
theorem dX6_times_30 : decode cX6_times 30 = .ok (.i2l, 1) := by decide +kernel
theorem dX6_times_31 : decode cX6_times 31 = .ok (.lmul, 1) := by decide +kernel
theorem dX6_times_32 : decode cX6_times 32 = .ok (.lstore_n 3, 1) := by decide +kernel
theorem dX6_times_33 : decode cX6_times 33 = .ok (.lload_n 3, 1) := by decide +kernel
theorem dX6_times_34 : decode cX6_times 34 = .ok (.ldc2_w 108, 3) := by decide +kernel
theorem dX6_times_37 : decode cX6_times 37 = .ok (.lcmp, 1) := by decide +kernel
theorem dX6_times_38 : decode cX6_times 38 = .ok (.ifCond .le 6, 3) := by decide +kernel
theorem dX6_times_41 : decode cX6_times 41 = .ok (.bipush (-3), 2) := by decide +kernel
theorem dX6_times_43 : decode cX6_times 43 = .ok (.ireturn, 1) := by decide +kernel
theorem dX6_times_44 : decode cX6_times 44 = .ok (.aload_n 0, 1) := by decide +kernel
theorem dX6_times_45 : decode cX6_times 45 = .ok (.getfield 19, 3) := by decide +kernel
theorem dX6_times_48 : decode cX6_times 48 = .ok (.aload_n 0, 1) := by decide +kernel
theorem dX6_times_49 : decode cX6_times 49 = .ok (.getfield 10, 3) := by decide +kernel
theorem dX6_times_52 : decode cX6_times 52 = .ok (.invokevirtual 65, 3) := by decide +kernel
theorem dX6_times_55 : decode cX6_times 55 = .ok (.aload_n 0, 1) := by decide +kernel
theorem dX6_times_56 : decode cX6_times 56 = .ok (.getfield 10, 3) := by decide +kernel
theorem dX6_times_59 : decode cX6_times 59 = .ok (.iload_n 1, 1) := by decide +kernel
theorem dX6_times_60 : decode cX6_times 60 = .ok (.iload_n 2, 1) := by decide +kernel
theorem dX6_times_61 : decode cX6_times 61 = .ok (.invokevirtual 110, 3) := by decide +kernel
theorem dX6_times_64 : decode cX6_times 64 = .ok (.lload_n 3, 1) := by decide +kernel
theorem dX6_times_65 : decode cX6_times 65 = .ok (.l2i, 1) := by decide +kernel
theorem dX6_times_66 : decode cX6_times 66 = .ok (.ireturn, 1) := by decide +kernel
set_option maxRecDepth 20000 in
theorem ggX6_costOf_X6_isWorker : GoodIn wsX6_costOf wsX6_isWorker := goodIn_r _ [6, 1, 7, 28, 29, 30, 31, 32, 33, 34, 35, 36, 37] (by decide +kernel) (by decide +kernel)
set_option maxRecDepth 20000 in
theorem gX6_costOf_X6_isWorker : GoodIn wsX6_costOf (wsV RX6 78 RX6 yX6_isWorker wsX6_isWorker) := goodIn_app (goodIn_of _ (by decide +kernel)) ggX6_costOf_X6_isWorker
set_option maxRecDepth 20000 in
theorem ggX6_costOf_X6_isTaskOrNone : GoodIn wsX6_costOf wsX6_isTaskOrNone := goodIn_r _ [11, 12, 13, 14, 5, 15, 1, 16, 28, 29, 30, 31, 32, 33, 34, 35, 36, 37] (by decide +kernel) (by decide +kernel)
set_option maxRecDepth 20000 in
theorem gX6_costOf_X6_isTaskOrNone : GoodIn wsX6_costOf (wsV RX6 114 RX6 yX6_isTaskOrNone wsX6_isTaskOrNone) := goodIn_app (goodIn_of _ (by decide +kernel)) ggX6_costOf_X6_isTaskOrNone
set_option maxRecDepth 20000 in
theorem ggX6_costOf_X4_isBarred : GoodIn wsX6_costOf wsX4_isBarred := goodIn_r _ [21, 22, 34, 35, 36, 37] (by decide +kernel) (by decide +kernel)
set_option maxRecDepth 20000 in
theorem gX6_costOf_X4_isBarred : GoodIn wsX6_costOf (wsV RX6 95 RX4 yX4_isBarred wsX4_isBarred) := goodIn_app (goodIn_of _ (by decide +kernel)) ggX6_costOf_X4_isBarred
set_option maxRecDepth 20000 in
theorem ggX6_costOf_X4_costWith : GoodIn wsX6_costOf wsX4_costWith := goodIn_r _ [26, 27, 22, 34, 35, 36, 37] (by decide +kernel) (by decide +kernel)
set_option maxRecDepth 20000 in
theorem gX6_costOf_X4_costWith : GoodIn wsX6_costOf (wsV RX6 117 RX4 yX4_costWith wsX4_costWith) := goodIn_app (goodIn_of _ (by decide +kernel)) ggX6_costOf_X4_costWith
theorem dX6_costOf_0 : decode cX6_costOf 0 = .ok (.aload_n 0, 1) := by decide +kernel
theorem dX6_costOf_1 : decode cX6_costOf 1 = .ok (.iload_n 1, 1) := by decide +kernel
theorem dX6_costOf_2 : decode cX6_costOf 2 = .ok (.invokevirtual 78, 3) := by decide +kernel
theorem dX6_costOf_5 : decode cX6_costOf 5 = .ok (.ifCond .eq 11, 3) := by decide +kernel
theorem dX6_costOf_8 : decode cX6_costOf 8 = .ok (.aload_n 0, 1) := by decide +kernel
theorem dX6_costOf_9 : decode cX6_costOf 9 = .ok (.iload_n 2, 1) := by decide +kernel
theorem dX6_costOf_10 : decode cX6_costOf 10 = .ok (.invokevirtual 114, 3) := by decide +kernel
theorem dX6_costOf_13 : decode cX6_costOf 13 = .ok (.ifCond .ne 5, 3) := by decide +kernel
theorem dX6_costOf_16 : decode cX6_costOf 16 = .ok (.iconst (-1), 1) := by decide +kernel
theorem dX6_costOf_17 : decode cX6_costOf 17 = .ok (.ireturn, 1) := by decide +kernel
theorem dX6_costOf_18 : decode cX6_costOf 18 = .ok (.aload_n 0, 1) := by decide +kernel
theorem dX6_costOf_19 : decode cX6_costOf 19 = .ok (.getfield 10, 3) := by decide +kernel
theorem dX6_costOf_22 : decode cX6_costOf 22 = .ok (.iload_n 1, 1) := by decide +kernel
theorem dX6_costOf_23 : decode cX6_costOf 23 = .ok (.iload_n 2, 1) := by decide +kernel
theorem dX6_costOf_24 : decode cX6_costOf 24 = .ok (.invokevirtual 95, 3) := by decide +kernel
theorem dX6_costOf_27 : decode cX6_costOf 27 = .ok (.ifCond .eq 6, 3) := by decide +kernel
theorem dX6_costOf_30 : decode cX6_costOf 30 = .ok (.bipush (-4), 2) := by decide +kernel
theorem dX6_costOf_32 : decode cX6_costOf 32 = .ok (.ireturn, 1) := by decide +kernel
theorem dX6_costOf_33 : decode cX6_costOf 33 = .ok (.aload_n 0, 1) := by decide +kernel
theorem dX6_costOf_34 : decode cX6_costOf 34 = .ok (.getfield 10, 3) := by decide +kernel
theorem dX6_costOf_37 : decode cX6_costOf 37 = .ok (.iload_n 1, 1) := by decide +kernel
theorem dX6_costOf_38 : decode cX6_costOf 38 = .ok (.iload_n 2, 1) := by decide +kernel
theorem dX6_costOf_39 : decode cX6_costOf 39 = .ok (.invokevirtual 117, 3) := by decide +kernel
theorem dX6_costOf_42 : decode cX6_costOf 42 = .ok (.ireturn, 1) := by decide +kernel
set_option maxRecDepth 20000 in
theorem ggX6_total_X1_leastTotal : GoodIn wsX6_total wsX1_leastTotal := goodIn_r _ [6, 7, 8, 9, 10, 11, 12, 13, 14, 15, 16, 5, 17, 18, 19, 20, 21, 22, 23, 24, 25, 26, 27, 28, 29, 30, 31, 32, 33, 34, 35, 36, 37, 38, 39, 46, 47, 48, 49, 50, 51, 52, 53] (by decide +kernel) (by decide +kernel)
set_option maxRecDepth 20000 in
theorem gX6_total_X1_leastTotal : GoodIn wsX6_total (wsV RX6 121 RX1 yX1_leastTotal wsX1_leastTotal) := goodIn_app (goodIn_of _ (by decide +kernel)) ggX6_total_X1_leastTotal
theorem dX6_total_0 : decode cX6_total 0 = .ok (.aload_n 0, 1) := by decide +kernel
theorem dX6_total_1 : decode cX6_total 1 = .ok (.getfield 28, 3) := by decide +kernel
theorem dX6_total_4 : decode cX6_total 4 = .ok (.invokevirtual 121, 3) := by decide +kernel
theorem dX6_total_7 : decode cX6_total 7 = .ok (.ireturn, 1) := by decide +kernel
set_option maxRecDepth 20000 in
theorem ggX6_taskOf_X6_isWorker : GoodIn wsX6_taskOf wsX6_isWorker := goodIn_r _ [7, 8, 9, 58, 59, 60, 61, 62, 63, 68, 69, 70, 71] (by decide +kernel) (by decide +kernel)
set_option maxRecDepth 20000 in
theorem gX6_taskOf_X6_isWorker : GoodIn wsX6_taskOf (wsV RX6 78 RX6 yX6_isWorker wsX6_isWorker) := goodIn_app (goodIn_of _ (by decide +kernel)) ggX6_taskOf_X6_isWorker
set_option maxRecDepth 20000 in
theorem ggX6_taskOf_X1_chooseFirst : GoodIn wsX6_taskOf wsX1_chooseFirst := goodIn_r _ [14, 15, 16, 17, 18, 19, 20, 21, 13, 22, 23, 24, 25, 26, 27, 28, 29, 30, 31, 32, 33, 34, 35, 36, 37, 38, 39, 40, 41, 42, 43, 44, 45, 46, 47, 48, 49, 50, 51, 52, 53, 54, 55, 56, 57, 64, 65, 66, 67, 68, 69, 70, 71] (by decide +kernel) (by decide +kernel)
set_option maxRecDepth 20000 in
theorem gX6_taskOf_X1_chooseFirst : GoodIn wsX6_taskOf (wsV RX6 125 RX1 yX1_chooseFirst wsX1_chooseFirst) := goodIn_app (goodIn_of _ (by decide +kernel)) ggX6_taskOf_X1_chooseFirst
theorem dX6_taskOf_0 : decode cX6_taskOf 0 = .ok (.aload_n 0, 1) := by decide +kernel
theorem dX6_taskOf_1 : decode cX6_taskOf 1 = .ok (.iload_n 1, 1) := by decide +kernel
theorem dX6_taskOf_2 : decode cX6_taskOf 2 = .ok (.invokevirtual 78, 3) := by decide +kernel
theorem dX6_taskOf_5 : decode cX6_taskOf 5 = .ok (.ifCond .ne 5, 3) := by decide +kernel
theorem dX6_taskOf_8 : decode cX6_taskOf 8 = .ok (.iconst (-1), 1) := by decide +kernel
theorem dX6_taskOf_9 : decode cX6_taskOf 9 = .ok (.ireturn, 1) := by decide +kernel
theorem dX6_taskOf_10 : decode cX6_taskOf 10 = .ok (.aload_n 0, 1) := by decide +kernel
theorem dX6_taskOf_11 : decode cX6_taskOf 11 = .ok (.getfield 28, 3) := by decide +kernel
theorem dX6_taskOf_14 : decode cX6_taskOf 14 = .ok (.invokevirtual 125, 3) := by decide +kernel
theorem dX6_taskOf_17 : decode cX6_taskOf 17 = .ok (.aload_n 0, 1) := by decide +kernel
theorem dX6_taskOf_18 : decode cX6_taskOf 18 = .ok (.getfield 28, 3) := by decide +kernel
theorem dX6_taskOf_21 : decode cX6_taskOf 21 = .ok (.getfield 128, 3) := by decide +kernel
theorem dX6_taskOf_24 : decode cX6_taskOf 24 = .ok (.iload_n 1, 1) := by decide +kernel
theorem dX6_taskOf_25 : decode cX6_taskOf 25 = .ok (.iaload, 1) := by decide +kernel
theorem dX6_taskOf_26 : decode cX6_taskOf 26 = .ok (.istore_n 2, 1) := by decide +kernel
theorem dX6_taskOf_27 : decode cX6_taskOf 27 = .ok (.iload_n 2, 1) := by decide +kernel
theorem dX6_taskOf_28 : decode cX6_taskOf 28 = .ok (.iconst (-1), 1) := by decide +kernel
theorem dX6_taskOf_29 : decode cX6_taskOf 29 = .ok (.if_icmp .ne 8, 3) := by decide +kernel
theorem dX6_taskOf_32 : decode cX6_taskOf 32 = .ok (.bipush (-4), 2) := by decide +kernel
theorem dX6_taskOf_34 : decode cX6_taskOf 34 = .ok (.goto 4, 3) := by decide +kernel
theorem dX6_taskOf_37 : decode cX6_taskOf 37 = .ok (.iload_n 2, 1) := by decide +kernel
theorem dX6_taskOf_38 : decode cX6_taskOf 38 = .ok (.ireturn, 1) := by decide +kernel
set_option maxRecDepth 20000 in
theorem ggX6_workerOf_X6_isTask : GoodIn wsX6_workerOf wsX6_isTask := goodIn_r _ [9, 2, 10, 59, 60, 61, 62, 63, 64, 65, 66, 67, 68] (by decide +kernel) (by decide +kernel)
set_option maxRecDepth 20000 in
theorem gX6_workerOf_X6_isTask : GoodIn wsX6_workerOf (wsV RX6 84 RX6 yX6_isTask wsX6_isTask) := goodIn_app (goodIn_of _ (by decide +kernel)) ggX6_workerOf_X6_isTask
set_option maxRecDepth 20000 in
theorem ggX6_workerOf_X1_chooseFirst : GoodIn wsX6_workerOf wsX1_chooseFirst := goodIn_r _ [15, 16, 17, 18, 19, 20, 21, 22, 14, 23, 24, 25, 26, 27, 28, 29, 30, 31, 32, 33, 34, 35, 36, 37, 38, 39, 40, 41, 42, 43, 44, 45, 46, 47, 48, 49, 50, 51, 52, 53, 54, 55, 56, 57, 58, 69, 70, 71, 72, 65, 66, 67, 68] (by decide +kernel) (by decide +kernel)
set_option maxRecDepth 20000 in
theorem gX6_workerOf_X1_chooseFirst : GoodIn wsX6_workerOf (wsV RX6 125 RX1 yX1_chooseFirst wsX1_chooseFirst) := goodIn_app (goodIn_of _ (by decide +kernel)) ggX6_workerOf_X1_chooseFirst
theorem dX6_workerOf_0 : decode cX6_workerOf 0 = .ok (.aload_n 0, 1) := by decide +kernel
theorem dX6_workerOf_1 : decode cX6_workerOf 1 = .ok (.iload_n 1, 1) := by decide +kernel
theorem dX6_workerOf_2 : decode cX6_workerOf 2 = .ok (.invokevirtual 84, 3) := by decide +kernel
theorem dX6_workerOf_5 : decode cX6_workerOf 5 = .ok (.ifCond .ne 5, 3) := by decide +kernel
theorem dX6_workerOf_8 : decode cX6_workerOf 8 = .ok (.iconst (-1), 1) := by decide +kernel
theorem dX6_workerOf_9 : decode cX6_workerOf 9 = .ok (.ireturn, 1) := by decide +kernel
theorem dX6_workerOf_10 : decode cX6_workerOf 10 = .ok (.aload_n 0, 1) := by decide +kernel
theorem dX6_workerOf_11 : decode cX6_workerOf 11 = .ok (.getfield 28, 3) := by decide +kernel
theorem dX6_workerOf_14 : decode cX6_workerOf 14 = .ok (.invokevirtual 125, 3) := by decide +kernel
theorem dX6_workerOf_17 : decode cX6_workerOf 17 = .ok (.iconst 0, 1) := by decide +kernel
theorem dX6_workerOf_18 : decode cX6_workerOf 18 = .ok (.istore_n 2, 1) := by decide +kernel
theorem dX6_workerOf_19 : decode cX6_workerOf 19 = .ok (.iload_n 2, 1) := by decide +kernel
theorem dX6_workerOf_20 : decode cX6_workerOf 20 = .ok (.aload_n 0, 1) := by decide +kernel
theorem dX6_workerOf_21 : decode cX6_workerOf 21 = .ok (.getfield 10, 3) := by decide +kernel
theorem dX6_workerOf_24 : decode cX6_workerOf 24 = .ok (.getfield 61, 3) := by decide +kernel
theorem dX6_workerOf_27 : decode cX6_workerOf 27 = .ok (.if_icmp .ge 24, 3) := by decide +kernel
theorem dX6_workerOf_30 : decode cX6_workerOf 30 = .ok (.aload_n 0, 1) := by decide +kernel
theorem dX6_workerOf_31 : decode cX6_workerOf 31 = .ok (.getfield 28, 3) := by decide +kernel
theorem dX6_workerOf_34 : decode cX6_workerOf 34 = .ok (.getfield 128, 3) := by decide +kernel
theorem dX6_workerOf_37 : decode cX6_workerOf 37 = .ok (.iload_n 2, 1) := by decide +kernel
theorem dX6_workerOf_38 : decode cX6_workerOf 38 = .ok (.iaload, 1) := by decide +kernel
theorem dX6_workerOf_39 : decode cX6_workerOf 39 = .ok (.iload_n 1, 1) := by decide +kernel
theorem dX6_workerOf_40 : decode cX6_workerOf 40 = .ok (.if_icmp .ne 5, 3) := by decide +kernel
theorem dX6_workerOf_43 : decode cX6_workerOf 43 = .ok (.iload_n 2, 1) := by decide +kernel
theorem dX6_workerOf_44 : decode cX6_workerOf 44 = .ok (.ireturn, 1) := by decide +kernel
theorem dX6_workerOf_45 : decode cX6_workerOf 45 = .ok (.iinc 2 1, 3) := by decide +kernel
theorem dX6_workerOf_48 : decode cX6_workerOf 48 = .ok (.goto (-29), 3) := by decide +kernel
theorem dX6_workerOf_51 : decode cX6_workerOf 51 = .ok (.bipush (-4), 2) := by decide +kernel
theorem dX6_workerOf_53 : decode cX6_workerOf 53 = .ok (.ireturn, 1) := by decide +kernel
set_option maxRecDepth 20000 in
theorem ggX6_price_X6_isTask : GoodIn wsX6_price wsX6_isTask := goodIn_r _ [7, 8, 9, 81, 82, 83, 84, 85, 86, 90, 91, 92, 93] (by decide +kernel) (by decide +kernel)
set_option maxRecDepth 20000 in
theorem gX6_price_X6_isTask : GoodIn wsX6_price (wsV RX6 84 RX6 yX6_isTask wsX6_isTask) := goodIn_app (goodIn_of _ (by decide +kernel)) ggX6_price_X6_isTask
set_option maxRecDepth 20000 in
theorem ggX6_price_X2_greatestOf : GoodIn wsX6_price wsX2_greatestOf := goodIn_r _ [14, 15, 16, 17, 18, 19, 20, 21, 22, 23, 24, 25, 26, 27, 28, 29, 30, 31, 32, 33, 34, 35, 36, 37, 38, 39, 40, 41, 42, 43, 44, 45, 46, 47, 48, 49, 87, 88, 89, 94, 95, 96, 97, 90, 91, 92, 93] (by decide +kernel) (by decide +kernel)
set_option maxRecDepth 20000 in
theorem gX6_price_X2_greatestOf : GoodIn wsX6_price (wsV RX6 134 RX2 yX2_greatestOf wsX2_greatestOf) := goodIn_app (goodIn_of _ (by decide +kernel)) ggX6_price_X2_greatestOf
set_option maxRecDepth 20000 in
theorem ggX6_price_X2_findLeast : GoodIn wsX6_price wsX2_findLeast := goodIn_r _ [53, 54, 55, 56, 15, 57, 58, 59, 60, 42, 61, 62, 63, 64, 19, 65, 21, 23, 24, 25, 26, 27, 28, 66, 67, 68, 69, 22, 29, 30, 31, 32, 33, 34, 35, 36, 37, 38, 39, 40, 41, 43, 44, 45, 46, 47, 48, 49, 70, 71, 72, 73, 74, 75, 76, 77, 78, 79, 80, 87, 88, 89, 90, 91, 92, 93, 94, 95, 96, 97] (by decide +kernel) (by decide +kernel)
set_option maxRecDepth 20000 in
theorem gX6_price_X2_findLeast : GoodIn wsX6_price (wsV RX6 137 RX2 yX2_findLeast wsX2_findLeast) := goodIn_app (goodIn_of _ (by decide +kernel)) ggX6_price_X2_findLeast
theorem dX6_price_0 : decode cX6_price 0 = .ok (.aload_n 0, 1) := by decide +kernel
theorem dX6_price_1 : decode cX6_price 1 = .ok (.iload_n 1, 1) := by decide +kernel
theorem dX6_price_2 : decode cX6_price 2 = .ok (.invokevirtual 84, 3) := by decide +kernel
theorem dX6_price_5 : decode cX6_price 5 = .ok (.ifCond .eq 12, 3) := by decide +kernel
theorem dX6_price_8 : decode cX6_price 8 = .ok (.iload_n 2, 1) := by decide +kernel
theorem dX6_price_9 : decode cX6_price 9 = .ok (.ifCond .lt 8, 3) := by decide +kernel
theorem dX6_price_12 : decode cX6_price 12 = .ok (.iload_n 2, 1) := by decide +kernel
theorem dX6_price_13 : decode cX6_price 13 = .ok (.iconst 1, 1) := by decide +kernel
theorem dX6_price_14 : decode cX6_price 14 = .ok (.if_icmp .le 5, 3) := by decide +kernel
theorem dX6_price_17 : decode cX6_price 17 = .ok (.iconst (-1), 1) := by decide +kernel
theorem dX6_price_18 : decode cX6_price 18 = .ok (.ireturn, 1) := by decide +kernel
theorem dX6_price_19 : decode cX6_price 19 = .ok (.iload_n 2, 1) := by decide +kernel
theorem dX6_price_20 : decode cX6_price 20 = .ok (.iconst 1, 1) := by decide +kernel
theorem dX6_price_21 : decode cX6_price 21 = .ok (.if_icmp .ne 12, 3) := by decide +kernel
theorem dX6_price_24 : decode cX6_price 24 = .ok (.aload_n 0, 1) := by decide +kernel
theorem dX6_price_25 : decode cX6_price 25 = .ok (.getfield 37, 3) := by decide +kernel
theorem dX6_price_28 : decode cX6_price 28 = .ok (.iload_n 1, 1) := by decide +kernel
theorem dX6_price_29 : decode cX6_price 29 = .ok (.invokevirtual 134, 3) := by decide +kernel
theorem dX6_price_32 : decode cX6_price 32 = .ok (.ireturn, 1) := by decide +kernel
theorem dX6_price_33 : decode cX6_price 33 = .ok (.aload_n 0, 1) := by decide +kernel
theorem dX6_price_34 : decode cX6_price 34 = .ok (.getfield 37, 3) := by decide +kernel
theorem dX6_price_37 : decode cX6_price 37 = .ok (.invokevirtual 137, 3) := by decide +kernel
theorem dX6_price_40 : decode cX6_price 40 = .ok (.aload_n 0, 1) := by decide +kernel
theorem dX6_price_41 : decode cX6_price 41 = .ok (.getfield 37, 3) := by decide +kernel
theorem dX6_price_44 : decode cX6_price 44 = .ok (.getfield 140, 3) := by decide +kernel
theorem dX6_price_47 : decode cX6_price 47 = .ok (.iload_n 1, 1) := by decide +kernel
theorem dX6_price_48 : decode cX6_price 48 = .ok (.iaload, 1) := by decide +kernel
theorem dX6_price_49 : decode cX6_price 49 = .ok (.ireturn, 1) := by decide +kernel
set_option maxRecDepth 20000 in
theorem ggX6_workerIs_X6_isWorker : GoodIn wsX6_workerIs wsX6_isWorker := goodIn_r _ [9, 2, 10, 88, 89, 90, 91, 92, 93, 94, 95, 96, 97] (by decide +kernel) (by decide +kernel)
set_option maxRecDepth 20000 in
theorem gX6_workerIs_X6_isWorker : GoodIn wsX6_workerIs (wsV RX6 78 RX6 yX6_isWorker wsX6_isWorker) := goodIn_app (goodIn_of _ (by decide +kernel)) ggX6_workerIs_X6_isWorker
set_option maxRecDepth 20000 in
theorem ggX6_workerIs_X1_leastTotal : GoodIn wsX6_workerIs wsX1_leastTotal := goodIn_r _ [15, 16, 17, 18, 19, 20, 21, 22, 23, 24, 25, 14, 26, 27, 28, 29, 30, 31, 32, 33, 34, 35, 36, 37, 38, 39, 40, 41, 42, 43, 44, 45, 46, 47, 48, 98, 99, 100, 101, 94, 95, 96, 97] (by decide +kernel) (by decide +kernel)
set_option maxRecDepth 20000 in
theorem gX6_workerIs_X1_leastTotal : GoodIn wsX6_workerIs (wsV RX6 121 RX1 yX1_leastTotal wsX1_leastTotal) := goodIn_app (goodIn_of _ (by decide +kernel)) ggX6_workerIs_X1_leastTotal
set_option maxRecDepth 20000 in
theorem ggX6_workerIs_X4_allWorkersBut : GoodIn wsX6_workerIs wsX4_allWorkersBut := goodIn_r _ [52, 53, 18, 19, 20, 21, 22, 94, 95, 96, 97] (by decide +kernel) (by decide +kernel)
set_option maxRecDepth 20000 in
theorem gX6_workerIs_X4_allWorkersBut : GoodIn wsX6_workerIs (wsV RX6 143 RX4 yX4_allWorkersBut wsX4_allWorkersBut) := goodIn_app (goodIn_of _ (by decide +kernel)) ggX6_workerIs_X4_allWorkersBut
set_option maxRecDepth 20000 in
theorem ggX6_workerIs_X1_leastTotalOf : GoodIn wsX6_workerIs wsX1_leastTotalOf := goodIn_r _ [26, 27, 28, 29, 30, 14, 31, 16, 32, 33, 34, 35, 36, 37, 38, 39, 40, 41, 42, 43, 44, 45, 46, 47, 48, 98, 99, 100, 101, 94, 95, 96, 97] (by decide +kernel) (by decide +kernel)
set_option maxRecDepth 20000 in
theorem gX6_workerIs_X1_leastTotalOf : GoodIn wsX6_workerIs (wsV RX6 131 RX1 yX1_leastTotalOf wsX1_leastTotalOf) := goodIn_app (goodIn_of _ (by decide +kernel)) ggX6_workerIs_X1_leastTotalOf
set_option maxRecDepth 20000 in
theorem ggX6_workerIs_X2_findLeast : GoodIn wsX6_workerIs wsX2_findLeast := goodIn_r _ [59, 60, 61, 62, 63, 64, 65, 66, 67, 41, 68, 69, 12, 13, 14, 15, 16, 17, 18, 19, 20, 21, 22, 23, 24, 25, 26, 27, 28, 29, 30, 31, 32, 33, 34, 35, 36, 37, 38, 39, 40, 42, 43, 44, 45, 46, 47, 48, 70, 50, 51, 52, 53, 71, 72, 73, 74, 75, 76, 102, 103, 104, 94, 95, 96, 97, 98, 99, 100, 101] (by decide +kernel) (by decide +kernel)
set_option maxRecDepth 20000 in
theorem gX6_workerIs_X2_findLeast : GoodIn wsX6_workerIs (wsV RX6 137 RX2 yX2_findLeast wsX2_findLeast) := goodIn_app (goodIn_of _ (by decide +kernel)) ggX6_workerIs_X2_findLeast
set_option maxRecDepth 20000 in
theorem ggX6_workerIs_X2_worthOf : GoodIn wsX6_workerIs wsX2_worthOf := goodIn_r _ [80, 60, 81, 61, 65, 62, 82, 40, 41, 42, 72, 73, 74, 20, 75, 76, 102, 103, 104, 94, 95, 96, 97] (by decide +kernel) (by decide +kernel)
set_option maxRecDepth 20000 in
theorem gX6_workerIs_X2_worthOf : GoodIn wsX6_workerIs (wsV RX6 146 RX2 yX2_worthOf wsX2_worthOf) := goodIn_app (goodIn_of _ (by decide +kernel)) ggX6_workerIs_X2_worthOf
set_option maxRecDepth 20000 in
theorem ggX6_workerIs_X2_tightTasksOf : GoodIn wsX6_workerIs wsX2_tightTasksOf := goodIn_r _ [86, 60, 61, 65, 62, 87, 78, 79, 58, 80, 81, 82, 40, 41, 42, 72, 73, 74, 20, 75, 76, 102, 103, 104, 94, 95, 96, 97] (by decide +kernel) (by decide +kernel)
set_option maxRecDepth 20000 in
theorem gX6_workerIs_X2_tightTasksOf : GoodIn wsX6_workerIs (wsV RX6 149 RX2 yX2_tightTasksOf wsX2_tightTasksOf) := goodIn_app (goodIn_of _ (by decide +kernel)) ggX6_workerIs_X2_tightTasksOf
theorem dX6_workerIs_0 : decode cX6_workerIs 0 = .ok (.aload_n 0, 1) := by decide +kernel
theorem dX6_workerIs_1 : decode cX6_workerIs 1 = .ok (.iload_n 1, 1) := by decide +kernel
theorem dX6_workerIs_2 : decode cX6_workerIs 2 = .ok (.invokevirtual 78, 3) := by decide +kernel
theorem dX6_workerIs_5 : decode cX6_workerIs 5 = .ok (.ifCond .eq 12, 3) := by decide +kernel
theorem dX6_workerIs_8 : decode cX6_workerIs 8 = .ok (.iload_n 2, 1) := by decide +kernel
theorem dX6_workerIs_9 : decode cX6_workerIs 9 = .ok (.ifCond .lt 8, 3) := by decide +kernel
theorem dX6_workerIs_12 : decode cX6_workerIs 12 = .ok (.iload_n 2, 1) := by decide +kernel
theorem dX6_workerIs_13 : decode cX6_workerIs 13 = .ok (.iconst 3, 1) := by decide +kernel
theorem dX6_workerIs_14 : decode cX6_workerIs 14 = .ok (.if_icmp .le 5, 3) := by decide +kernel
theorem dX6_workerIs_17 : decode cX6_workerIs 17 = .ok (.iconst (-1), 1) := by decide +kernel
theorem dX6_workerIs_18 : decode cX6_workerIs 18 = .ok (.ireturn, 1) := by decide +kernel
theorem dX6_workerIs_19 : decode cX6_workerIs 19 = .ok (.iload_n 2, 1) := by decide +kernel
theorem dX6_workerIs_20 : decode cX6_workerIs 20 = .ok (.iconst 3, 1) := by decide +kernel
theorem dX6_workerIs_21 : decode cX6_workerIs 21 = .ok (.if_icmp .ne 27, 3) := by decide +kernel
theorem dX6_workerIs_24 : decode cX6_workerIs 24 = .ok (.aload_n 0, 1) := by decide +kernel
theorem dX6_workerIs_25 : decode cX6_workerIs 25 = .ok (.getfield 28, 3) := by decide +kernel
theorem dX6_workerIs_28 : decode cX6_workerIs 28 = .ok (.invokevirtual 121, 3) := by decide +kernel
theorem dX6_workerIs_31 : decode cX6_workerIs 31 = .ok (.aload_n 0, 1) := by decide +kernel
theorem dX6_workerIs_32 : decode cX6_workerIs 32 = .ok (.getfield 28, 3) := by decide +kernel
theorem dX6_workerIs_35 : decode cX6_workerIs 35 = .ok (.aload_n 0, 1) := by decide +kernel
theorem dX6_workerIs_36 : decode cX6_workerIs 36 = .ok (.getfield 10, 3) := by decide +kernel
theorem dX6_workerIs_39 : decode cX6_workerIs 39 = .ok (.iload_n 1, 1) := by decide +kernel
theorem dX6_workerIs_40 : decode cX6_workerIs 40 = .ok (.invokevirtual 143, 3) := by decide +kernel
theorem dX6_workerIs_43 : decode cX6_workerIs 43 = .ok (.invokevirtual 131, 3) := by decide +kernel
theorem dX6_workerIs_46 : decode cX6_workerIs 46 = .ok (.isub, 1) := by decide +kernel
theorem dX6_workerIs_47 : decode cX6_workerIs 47 = .ok (.ireturn, 1) := by decide +kernel
theorem dX6_workerIs_48 : decode cX6_workerIs 48 = .ok (.aload_n 0, 1) := by decide +kernel
theorem dX6_workerIs_49 : decode cX6_workerIs 49 = .ok (.getfield 37, 3) := by decide +kernel
theorem dX6_workerIs_52 : decode cX6_workerIs 52 = .ok (.invokevirtual 137, 3) := by decide +kernel
theorem dX6_workerIs_55 : decode cX6_workerIs 55 = .ok (.iload_n 2, 1) := by decide +kernel
theorem dX6_workerIs_56 : decode cX6_workerIs 56 = .ok (.lookupswitch 46 #[(0, 28), (1, 37)], 28) := by decide +kernel
theorem dX6_workerIs_84 : decode cX6_workerIs 84 = .ok (.aload_n 0, 1) := by decide +kernel
theorem dX6_workerIs_85 : decode cX6_workerIs 85 = .ok (.getfield 37, 3) := by decide +kernel
theorem dX6_workerIs_88 : decode cX6_workerIs 88 = .ok (.iload_n 1, 1) := by decide +kernel
theorem dX6_workerIs_89 : decode cX6_workerIs 89 = .ok (.invokevirtual 146, 3) := by decide +kernel
theorem dX6_workerIs_92 : decode cX6_workerIs 92 = .ok (.ireturn, 1) := by decide +kernel
theorem dX6_workerIs_93 : decode cX6_workerIs 93 = .ok (.aload_n 0, 1) := by decide +kernel
theorem dX6_workerIs_94 : decode cX6_workerIs 94 = .ok (.getfield 37, 3) := by decide +kernel
theorem dX6_workerIs_97 : decode cX6_workerIs 97 = .ok (.iload_n 1, 1) := by decide +kernel
theorem dX6_workerIs_98 : decode cX6_workerIs 98 = .ok (.invokevirtual 149, 3) := by decide +kernel
theorem dX6_workerIs_101 : decode cX6_workerIs 101 = .ok (.ireturn, 1) := by decide +kernel
theorem dX6_workerIs_102 : decode cX6_workerIs 102 = .ok (.aload_n 0, 1) := by decide +kernel
theorem dX6_workerIs_103 : decode cX6_workerIs 103 = .ok (.getfield 37, 3) := by decide +kernel
theorem dX6_workerIs_106 : decode cX6_workerIs 106 = .ok (.iload_n 1, 1) := by decide +kernel
theorem dX6_workerIs_107 : decode cX6_workerIs 107 = .ok (.invokevirtual 146, 3) := by decide +kernel
theorem dX6_workerIs_110 : decode cX6_workerIs 110 = .ok (.aload_n 0, 1) := by decide +kernel
theorem dX6_workerIs_111 : decode cX6_workerIs 111 = .ok (.getfield 10, 3) := by decide +kernel
theorem dX6_workerIs_114 : decode cX6_workerIs 114 = .ok (.getfield 99, 3) := by decide +kernel
theorem dX6_workerIs_117 : decode cX6_workerIs 117 = .ok (.iload_n 1, 1) := by decide +kernel
theorem dX6_workerIs_118 : decode cX6_workerIs 118 = .ok (.iaload, 1) := by decide +kernel
theorem dX6_workerIs_119 : decode cX6_workerIs 119 = .ok (.if_icmp .ne 7, 3) := by decide +kernel
theorem dX6_workerIs_122 : decode cX6_workerIs 122 = .ok (.iconst 1, 1) := by decide +kernel
theorem dX6_workerIs_123 : decode cX6_workerIs 123 = .ok (.goto 4, 3) := by decide +kernel
theorem dX6_workerIs_126 : decode cX6_workerIs 126 = .ok (.iconst 0, 1) := by decide +kernel
theorem dX6_workerIs_127 : decode cX6_workerIs 127 = .ok (.ireturn, 1) := by decide +kernel
set_option maxRecDepth 20000 in
theorem ggX6_proof_X2_findLeast : GoodIn wsX6_proof wsX2_findLeast := goodIn_r _ [6, 7, 8, 9, 10, 11, 12, 13, 14, 15, 16, 17, 18, 19, 20, 21, 22, 23, 24, 25, 26, 27, 28, 29, 30, 31, 32, 33, 34, 35, 36, 37, 38, 39, 40, 41, 42, 43, 44, 45, 46, 47, 48, 49, 50, 51, 52, 53, 54, 55, 56, 57, 58, 59, 60, 61, 62, 63, 64, 85, 86, 87, 88, 89, 90, 91, 92, 93, 94, 95] (by decide +kernel) (by decide +kernel)
set_option maxRecDepth 20000 in
theorem gX6_proof_X2_findLeast : GoodIn wsX6_proof (wsV RX6 137 RX2 yX2_findLeast wsX2_findLeast) := goodIn_app (goodIn_of _ (by decide +kernel)) ggX6_proof_X2_findLeast
set_option maxRecDepth 20000 in
theorem ggX6_proof_X2_sumOfWorths : GoodIn wsX6_proof wsX2_sumOfWorths := goodIn_r _ [68, 7, 11, 69, 70, 71, 5, 72, 73, 8, 12, 9, 74, 46, 15, 47, 60, 61, 62, 26, 63, 64, 85, 86, 87, 88, 89, 90, 91] (by decide +kernel) (by decide +kernel)
set_option maxRecDepth 20000 in
theorem gX6_proof_X2_sumOfWorths : GoodIn wsX6_proof (wsV RX6 152 RX2 yX2_sumOfWorths wsX2_sumOfWorths) := goodIn_app (goodIn_of _ (by decide +kernel)) ggX6_proof_X2_sumOfWorths
set_option maxRecDepth 20000 in
theorem ggX6_proof_X2_sumOfLeast : GoodIn wsX6_proof wsX2_sumOfLeast := goodIn_r _ [78, 7, 8, 9, 85, 86, 87, 88, 89, 90, 91] (by decide +kernel) (by decide +kernel)
set_option maxRecDepth 20000 in
theorem gX6_proof_X2_sumOfLeast : GoodIn wsX6_proof (wsV RX6 155 RX2 yX2_sumOfLeast wsX2_sumOfLeast) := goodIn_app (goodIn_of _ (by decide +kernel)) ggX6_proof_X2_sumOfLeast
theorem dX6_proof_0 : decode cX6_proof 0 = .ok (.aload_n 0, 1) := by decide +kernel
theorem dX6_proof_1 : decode cX6_proof 1 = .ok (.getfield 37, 3) := by decide +kernel
theorem dX6_proof_4 : decode cX6_proof 4 = .ok (.invokevirtual 137, 3) := by decide +kernel
theorem dX6_proof_7 : decode cX6_proof 7 = .ok (.aload_n 0, 1) := by decide +kernel
theorem dX6_proof_8 : decode cX6_proof 8 = .ok (.getfield 37, 3) := by decide +kernel
theorem dX6_proof_11 : decode cX6_proof 11 = .ok (.invokevirtual 152, 3) := by decide +kernel
theorem dX6_proof_14 : decode cX6_proof 14 = .ok (.aload_n 0, 1) := by decide +kernel
theorem dX6_proof_15 : decode cX6_proof 15 = .ok (.getfield 37, 3) := by decide +kernel
theorem dX6_proof_18 : decode cX6_proof 18 = .ok (.invokevirtual 155, 3) := by decide +kernel
theorem dX6_proof_21 : decode cX6_proof 21 = .ok (.isub, 1) := by decide +kernel
theorem dX6_proof_22 : decode cX6_proof 22 = .ok (.ireturn, 1) := by decide +kernel
set_option maxRecDepth 20000 in
theorem ggX6_count_X4_openPairs : GoodIn wsX6_count wsX4_openPairs := goodIn_r _ [14, 15, 16, 17, 18, 19, 13, 20, 21, 137, 138, 139, 140] (by decide +kernel) (by decide +kernel)
set_option maxRecDepth 20000 in
theorem gX6_count_X4_openPairs : GoodIn wsX6_count (wsV RX6 173 RX4 yX4_openPairs wsX4_openPairs) := goodIn_app (goodIn_of _ (by decide +kernel)) ggX6_count_X4_openPairs
set_option maxRecDepth 20000 in
theorem ggX6_count_X1_chooseFirst : GoodIn wsX6_count wsX1_chooseFirst := goodIn_r _ [26, 27, 28, 29, 30, 31, 32, 33, 25, 34, 35, 36, 37, 13, 38, 15, 39, 40, 41, 42, 43, 44, 45, 46, 47, 48, 49, 50, 51, 52, 53, 54, 55, 56, 57, 58, 59, 60, 61, 62, 63, 64, 65, 66, 67, 145, 146, 147, 148, 137, 138, 139, 140] (by decide +kernel) (by decide +kernel)
set_option maxRecDepth 20000 in
theorem gX6_count_X1_chooseFirst : GoodIn wsX6_count (wsV RX6 125 RX1 yX1_chooseFirst wsX1_chooseFirst) := goodIn_app (goodIn_of _ (by decide +kernel)) ggX6_count_X1_chooseFirst
set_option maxRecDepth 20000 in
theorem ggX6_count_X1_chosenPairs : GoodIn wsX6_count wsX1_chosenPairs := goodIn_r _ [71, 28, 29, 30, 145, 146, 147, 148, 137, 138, 139, 140] (by decide +kernel) (by decide +kernel)
set_option maxRecDepth 20000 in
theorem gX6_count_X1_chosenPairs : GoodIn wsX6_count (wsV RX6 176 RX1 yX1_chosenPairs wsX1_chosenPairs) := goodIn_app (goodIn_of _ (by decide +kernel)) ggX6_count_X1_chosenPairs
set_option maxRecDepth 20000 in
theorem ggX6_count_X2_findLeast : GoodIn wsX6_count wsX2_findLeast := goodIn_r _ [76, 77, 78, 79, 80, 81, 82, 83, 84, 56, 85, 86, 32, 33, 25, 34, 28, 35, 36, 37, 13, 38, 15, 39, 40, 41, 42, 43, 44, 45, 46, 47, 48, 29, 49, 50, 51, 52, 53, 54, 55, 57, 58, 59, 60, 61, 62, 63, 87, 88, 89, 90, 91, 92, 93, 18, 19, 20, 21, 149, 150, 151, 137, 138, 139, 140, 145, 146, 147, 148] (by decide +kernel) (by decide +kernel)
set_option maxRecDepth 20000 in
theorem gX6_count_X2_findLeast : GoodIn wsX6_count (wsV RX6 137 RX2 yX2_findLeast wsX2_findLeast) := goodIn_app (goodIn_of _ (by decide +kernel)) ggX6_count_X2_findLeast
set_option maxRecDepth 20000 in
theorem ggX6_count_X2_tightPairs : GoodIn wsX6_count wsX2_tightPairs := goodIn_r _ [97, 77, 81, 98, 99, 100, 75, 101, 78, 82, 79, 102, 103, 104, 105, 106, 107, 55, 56, 57, 93, 18, 19, 13, 20, 21, 108, 109, 110, 111, 112, 113, 114, 149, 150, 151, 137, 138, 139, 140] (by decide +kernel) (by decide +kernel)
set_option maxRecDepth 20000 in
theorem gX6_count_X2_tightPairs : GoodIn wsX6_count (wsV RX6 179 RX2 yX2_tightPairs wsX2_tightPairs) := goodIn_app (goodIn_of _ (by decide +kernel)) ggX6_count_X2_tightPairs
set_option maxRecDepth 20000 in
theorem ggX6_count_X2_sumOfLeast : GoodIn wsX6_count wsX2_sumOfLeast := goodIn_r _ [118, 77, 78, 79, 149, 150, 151, 137, 138, 139, 140] (by decide +kernel) (by decide +kernel)
set_option maxRecDepth 20000 in
theorem gX6_count_X2_sumOfLeast : GoodIn wsX6_count (wsV RX6 155 RX2 yX2_sumOfLeast wsX2_sumOfLeast) := goodIn_app (goodIn_of _ (by decide +kernel)) ggX6_count_X2_sumOfLeast
set_option maxRecDepth 20000 in
theorem ggX6_count_X2_sumOfGreatest : GoodIn wsX6_count wsX2_sumOfGreatest := goodIn_r _ [122, 77, 78, 123, 124, 125, 75, 126, 80, 127, 128, 129, 25, 130, 28, 43, 35, 36, 37, 13, 38, 15, 44, 45, 46, 47, 48, 29, 49, 50, 51, 52, 53, 54, 55, 56, 57, 58, 59, 60, 61, 62, 63, 149, 150, 151, 137, 138, 139, 140, 145, 146, 147, 148] (by decide +kernel) (by decide +kernel)
set_option maxRecDepth 20000 in
theorem gX6_count_X2_sumOfGreatest : GoodIn wsX6_count (wsV RX6 182 RX2 yX2_sumOfGreatest wsX2_sumOfGreatest) := goodIn_app (goodIn_of _ (by decide +kernel)) ggX6_count_X2_sumOfGreatest
theorem dX6_count_0 : decode cX6_count 0 = .ok (.iload_n 1, 1) := by decide +kernel
theorem dX6_count_1 : decode cX6_count 1 = .ok (.tableswitch 144 0 8 #[51, 59, 67, 75, 90, 105, 120, 128, 136], 51) := by decide +kernel
theorem dX6_count_52 : decode cX6_count 52 = .ok (.aload_n 0, 1) := by decide +kernel
theorem dX6_count_53 : decode cX6_count 53 = .ok (.getfield 10, 3) := by decide +kernel
theorem dX6_count_56 : decode cX6_count 56 = .ok (.getfield 61, 3) := by decide +kernel
theorem dX6_count_59 : decode cX6_count 59 = .ok (.ireturn, 1) := by decide +kernel
theorem dX6_count_60 : decode cX6_count 60 = .ok (.aload_n 0, 1) := by decide +kernel
theorem dX6_count_61 : decode cX6_count 61 = .ok (.getfield 10, 3) := by decide +kernel
theorem dX6_count_64 : decode cX6_count 64 = .ok (.getfield 72, 3) := by decide +kernel
theorem dX6_count_67 : decode cX6_count 67 = .ok (.ireturn, 1) := by decide +kernel
theorem dX6_count_68 : decode cX6_count 68 = .ok (.aload_n 0, 1) := by decide +kernel
theorem dX6_count_69 : decode cX6_count 69 = .ok (.getfield 10, 3) := by decide +kernel
theorem dX6_count_72 : decode cX6_count 72 = .ok (.invokevirtual 173, 3) := by decide +kernel
theorem dX6_count_75 : decode cX6_count 75 = .ok (.ireturn, 1) := by decide +kernel
theorem dX6_count_76 : decode cX6_count 76 = .ok (.aload_n 0, 1) := by decide +kernel
theorem dX6_count_77 : decode cX6_count 77 = .ok (.getfield 28, 3) := by decide +kernel
theorem dX6_count_80 : decode cX6_count 80 = .ok (.invokevirtual 125, 3) := by decide +kernel
theorem dX6_count_83 : decode cX6_count 83 = .ok (.aload_n 0, 1) := by decide +kernel
theorem dX6_count_84 : decode cX6_count 84 = .ok (.getfield 28, 3) := by decide +kernel
theorem dX6_count_87 : decode cX6_count 87 = .ok (.invokevirtual 176, 3) := by decide +kernel
theorem dX6_count_90 : decode cX6_count 90 = .ok (.ireturn, 1) := by decide +kernel
theorem dX6_count_91 : decode cX6_count 91 = .ok (.aload_n 0, 1) := by decide +kernel
theorem dX6_count_92 : decode cX6_count 92 = .ok (.getfield 37, 3) := by decide +kernel
theorem dX6_count_95 : decode cX6_count 95 = .ok (.invokevirtual 137, 3) := by decide +kernel
theorem dX6_count_98 : decode cX6_count 98 = .ok (.aload_n 0, 1) := by decide +kernel
theorem dX6_count_99 : decode cX6_count 99 = .ok (.getfield 37, 3) := by decide +kernel
theorem dX6_count_102 : decode cX6_count 102 = .ok (.invokevirtual 179, 3) := by decide +kernel
theorem dX6_count_105 : decode cX6_count 105 = .ok (.ireturn, 1) := by decide +kernel
theorem dX6_count_106 : decode cX6_count 106 = .ok (.aload_n 0, 1) := by decide +kernel
theorem dX6_count_107 : decode cX6_count 107 = .ok (.getfield 37, 3) := by decide +kernel
theorem dX6_count_110 : decode cX6_count 110 = .ok (.invokevirtual 137, 3) := by decide +kernel
theorem dX6_count_113 : decode cX6_count 113 = .ok (.aload_n 0, 1) := by decide +kernel
theorem dX6_count_114 : decode cX6_count 114 = .ok (.getfield 37, 3) := by decide +kernel
theorem dX6_count_117 : decode cX6_count 117 = .ok (.invokevirtual 155, 3) := by decide +kernel
theorem dX6_count_120 : decode cX6_count 120 = .ok (.ireturn, 1) := by decide +kernel
theorem dX6_count_121 : decode cX6_count 121 = .ok (.aload_n 0, 1) := by decide +kernel
theorem dX6_count_122 : decode cX6_count 122 = .ok (.getfield 37, 3) := by decide +kernel
theorem dX6_count_125 : decode cX6_count 125 = .ok (.invokevirtual 182, 3) := by decide +kernel
theorem dX6_count_128 : decode cX6_count 128 = .ok (.ireturn, 1) := by decide +kernel
theorem dX6_count_129 : decode cX6_count 129 = .ok (.aload_n 0, 1) := by decide +kernel
theorem dX6_count_130 : decode cX6_count 130 = .ok (.getfield 19, 3) := by decide +kernel
theorem dX6_count_133 : decode cX6_count 133 = .ok (.getfield 185, 3) := by decide +kernel
theorem dX6_count_136 : decode cX6_count 136 = .ok (.ireturn, 1) := by decide +kernel
theorem dX6_count_137 : decode cX6_count 137 = .ok (.aload_n 0, 1) := by decide +kernel
theorem dX6_count_138 : decode cX6_count 138 = .ok (.getfield 44, 3) := by decide +kernel
theorem dX6_count_141 : decode cX6_count 141 = .ok (.getfield 188, 3) := by decide +kernel
theorem dX6_count_144 : decode cX6_count 144 = .ok (.ireturn, 1) := by decide +kernel
theorem dX6_count_145 : decode cX6_count 145 = .ok (.iconst (-1), 1) := by decide +kernel
theorem dX6_count_146 : decode cX6_count 146 = .ok (.ireturn, 1) := by decide +kernel
set_option maxRecDepth 20000 in
theorem ggX6_type_X5_append : GoodIn wsX6_type wsX5_append := goodIn_r _ [7, 8, 9, 16, 17] (by decide +kernel) (by decide +kernel)
set_option maxRecDepth 20000 in
theorem gX6_type_X5_append : GoodIn wsX6_type (wsV RX6 194 RX5 yX5_append wsX5_append) := goodIn_app (goodIn_of _ (by decide +kernel)) ggX6_type_X5_append
theorem dX6_type_0 : decode cX6_type 0 = .ok (.iload_n 1, 1) := by decide +kernel
theorem dX6_type_1 : decode cX6_type 1 = .ok (.bipush 32, 2) := by decide +kernel
theorem dX6_type_3 : decode cX6_type 3 = .ok (.if_icmp .lt 9, 3) := by decide +kernel
theorem dX6_type_6 : decode cX6_type 6 = .ok (.iload_n 1, 1) := by decide +kernel
theorem dX6_type_7 : decode cX6_type 7 = .ok (.bipush 126, 2) := by decide +kernel
theorem dX6_type_9 : decode cX6_type 9 = .ok (.if_icmp .le 5, 3) := by decide +kernel
theorem dX6_type_12 : decode cX6_type 12 = .ok (.iconst (-1), 1) := by decide +kernel
theorem dX6_type_13 : decode cX6_type 13 = .ok (.ireturn, 1) := by decide +kernel
theorem dX6_type_14 : decode cX6_type 14 = .ok (.aload_n 0, 1) := by decide +kernel
theorem dX6_type_15 : decode cX6_type 15 = .ok (.getfield 44, 3) := by decide +kernel
theorem dX6_type_18 : decode cX6_type 18 = .ok (.getfield 188, 3) := by decide +kernel
theorem dX6_type_21 : decode cX6_type 21 = .ok (.bipush 80, 2) := by decide +kernel
theorem dX6_type_23 : decode cX6_type 23 = .ok (.if_icmp .lt 6, 3) := by decide +kernel
theorem dX6_type_26 : decode cX6_type 26 = .ok (.bipush (-3), 2) := by decide +kernel
theorem dX6_type_28 : decode cX6_type 28 = .ok (.ireturn, 1) := by decide +kernel
theorem dX6_type_29 : decode cX6_type 29 = .ok (.aload_n 0, 1) := by decide +kernel
theorem dX6_type_30 : decode cX6_type 30 = .ok (.getfield 44, 3) := by decide +kernel
theorem dX6_type_33 : decode cX6_type 33 = .ok (.iload_n 1, 1) := by decide +kernel
theorem dX6_type_34 : decode cX6_type 34 = .ok (.i2c, 1) := by decide +kernel
theorem dX6_type_35 : decode cX6_type 35 = .ok (.invokevirtual 194, 3) := by decide +kernel
theorem dX6_type_38 : decode cX6_type 38 = .ok (.aload_n 0, 1) := by decide +kernel
theorem dX6_type_39 : decode cX6_type 39 = .ok (.getfield 44, 3) := by decide +kernel
theorem dX6_type_42 : decode cX6_type 42 = .ok (.getfield 188, 3) := by decide +kernel
theorem dX6_type_45 : decode cX6_type 45 = .ok (.ireturn, 1) := by decide +kernel
theorem dX6_clearText_0 : decode cX6_clearText 0 = .ok (.aload_n 0, 1) := by decide +kernel
theorem dX6_clearText_1 : decode cX6_clearText 1 = .ok (.getfield 44, 3) := by decide +kernel
theorem dX6_clearText_4 : decode cX6_clearText 4 = .ok (.getfield 188, 3) := by decide +kernel
theorem dX6_clearText_7 : decode cX6_clearText 7 = .ok (.istore_n 1, 1) := by decide +kernel
theorem dX6_clearText_8 : decode cX6_clearText 8 = .ok (.aload_n 0, 1) := by decide +kernel
theorem dX6_clearText_9 : decode cX6_clearText 9 = .ok (.getfield 44, 3) := by decide +kernel
theorem dX6_clearText_12 : decode cX6_clearText 12 = .ok (.iconst 0, 1) := by decide +kernel
theorem dX6_clearText_13 : decode cX6_clearText 13 = .ok (.putfield 188, 3) := by decide +kernel
theorem dX6_clearText_16 : decode cX6_clearText 16 = .ok (.iload_n 1, 1) := by decide +kernel
theorem dX6_clearText_17 : decode cX6_clearText 17 = .ok (.ireturn, 1) := by decide +kernel
set_option maxRecDepth 20000 in
theorem ggX6_fault_X3_readText : GoodIn wsX6_fault wsX3_readText := goodIn_r _ [8, 9, 10, 11, 12, 13, 14, 15, 16, 17, 7, 18, 19, 20, 21, 22, 23, 24, 25, 26, 27, 28, 29, 30, 31, 32, 33, 34, 35, 36, 37, 38, 39, 40, 41, 42, 43, 44, 45, 46, 47, 48, 55, 56, 57, 58, 59, 60, 61, 62, 63, 64] (by decide +kernel) (by decide +kernel)
set_option maxRecDepth 20000 in
theorem gX6_fault_X3_readText : GoodIn wsX6_fault (wsV RX6 198 RX3 yX3_readText wsX3_readText) := goodIn_app (goodIn_of _ (by decide +kernel)) ggX6_fault_X3_readText
theorem dX6_fault_0 : decode cX6_fault 0 = .ok (.iload_n 1, 1) := by decide +kernel
theorem dX6_fault_1 : decode cX6_fault 1 = .ok (.ifCond .lt 8, 3) := by decide +kernel
theorem dX6_fault_4 : decode cX6_fault 4 = .ok (.iload_n 1, 1) := by decide +kernel
theorem dX6_fault_5 : decode cX6_fault 5 = .ok (.iconst 1, 1) := by decide +kernel
theorem dX6_fault_6 : decode cX6_fault 6 = .ok (.if_icmp .le 5, 3) := by decide +kernel
theorem dX6_fault_9 : decode cX6_fault 9 = .ok (.iconst (-1), 1) := by decide +kernel
theorem dX6_fault_10 : decode cX6_fault 10 = .ok (.ireturn, 1) := by decide +kernel
theorem dX6_fault_11 : decode cX6_fault 11 = .ok (.aload_n 0, 1) := by decide +kernel
theorem dX6_fault_12 : decode cX6_fault 12 = .ok (.getfield 53, 3) := by decide +kernel
theorem dX6_fault_15 : decode cX6_fault 15 = .ok (.invokevirtual 198, 3) := by decide +kernel
theorem dX6_fault_18 : decode cX6_fault 18 = .ok (.aload_n 0, 1) := by decide +kernel
theorem dX6_fault_19 : decode cX6_fault 19 = .ok (.getfield 53, 3) := by decide +kernel
theorem dX6_fault_22 : decode cX6_fault 22 = .ok (.getfield 201, 3) := by decide +kernel
theorem dX6_fault_25 : decode cX6_fault 25 = .ok (.ifCond .ne 6, 3) := by decide +kernel
theorem dX6_fault_28 : decode cX6_fault 28 = .ok (.bipush (-4), 2) := by decide +kernel
theorem dX6_fault_30 : decode cX6_fault 30 = .ok (.ireturn, 1) := by decide +kernel
theorem dX6_fault_31 : decode cX6_fault 31 = .ok (.iload_n 1, 1) := by decide +kernel
theorem dX6_fault_32 : decode cX6_fault 32 = .ok (.ifCond .ne 13, 3) := by decide +kernel
theorem dX6_fault_35 : decode cX6_fault 35 = .ok (.aload_n 0, 1) := by decide +kernel
theorem dX6_fault_36 : decode cX6_fault 36 = .ok (.getfield 53, 3) := by decide +kernel
theorem dX6_fault_39 : decode cX6_fault 39 = .ok (.getfield 204, 3) := by decide +kernel
theorem dX6_fault_42 : decode cX6_fault 42 = .ok (.goto 10, 3) := by decide +kernel
theorem dX6_fault_45 : decode cX6_fault 45 = .ok (.aload_n 0, 1) := by decide +kernel
theorem dX6_fault_46 : decode cX6_fault 46 = .ok (.getfield 53, 3) := by decide +kernel
theorem dX6_fault_49 : decode cX6_fault 49 = .ok (.getfield 201, 3) := by decide +kernel
theorem dX6_fault_52 : decode cX6_fault 52 = .ok (.ireturn, 1) := by decide +kernel
set_option maxRecDepth 20000 in
theorem ggX6_read_X3_readText : GoodIn wsX6_read wsX3_readText := goodIn_r _ [11, 12, 13, 14, 15, 16, 17, 18, 19, 20, 10, 21, 22, 23, 24, 25, 26, 27, 28, 29, 30, 31, 32, 33, 34, 35, 36, 37, 38, 39, 40, 41, 42, 43, 44, 45, 46, 47, 48, 49, 50, 51, 115, 116, 117, 118, 119, 120, 121, 122, 123, 124] (by decide +kernel) (by decide +kernel)
set_option maxRecDepth 20000 in
theorem gX6_read_X3_readText : GoodIn wsX6_read (wsV RX6 198 RX3 yX3_readText wsX3_readText) := goodIn_app (goodIn_of _ (by decide +kernel)) ggX6_read_X3_readText
set_option maxRecDepth 20000 in
theorem ggX6_read_X0_keep : GoodIn wsX6_read wsX0_keep := goodIn_r _ [56, 57, 58, 59, 60, 61, 55, 62, 63, 64, 65, 66, 67, 68, 69, 70, 71, 125, 126, 119, 120, 121, 122] (by decide +kernel) (by decide +kernel)
set_option maxRecDepth 20000 in
theorem gX6_read_X0_keep : GoodIn wsX6_read (wsV RX6 65 RX0 yX0_keep wsX0_keep) := goodIn_app (goodIn_of _ (by decide +kernel)) ggX6_read_X0_keep
set_option maxRecDepth 20000 in
theorem ggX6_read_X4_copyFrom : GoodIn wsX6_read wsX4_copyFrom := goodIn_r _ [67, 68, 69, 70, 71, 119, 120, 121, 122] (by decide +kernel) (by decide +kernel)
set_option maxRecDepth 20000 in
theorem gX6_read_X4_copyFrom : GoodIn wsX6_read (wsV RX6 210 RX4 yX4_copyFrom wsX4_copyFrom) := goodIn_app (goodIn_of _ (by decide +kernel)) ggX6_read_X4_copyFrom
set_option maxRecDepth 20000 in
theorem ggX6_read_X1_leastTotal : GoodIn wsX6_read wsX1_leastTotal := goodIn_r _ [77, 78, 79, 80, 81, 66, 82, 68, 83, 84, 85, 76, 86, 87, 88, 89, 90, 91, 92, 93, 94, 95, 96, 97, 98, 99, 100, 101, 102, 103, 104, 105, 106, 107, 108, 127, 128, 129, 130, 119, 120, 121, 122] (by decide +kernel) (by decide +kernel)
set_option maxRecDepth 20000 in
theorem gX6_read_X1_leastTotal : GoodIn wsX6_read (wsV RX6 121 RX1 yX1_leastTotal wsX1_leastTotal) := goodIn_app (goodIn_of _ (by decide +kernel)) ggX6_read_X1_leastTotal
theorem dX6_read_0 : decode cX6_read 0 = .ok (.aload_n 0, 1) := by decide +kernel
theorem dX6_read_1 : decode cX6_read 1 = .ok (.getfield 53, 3) := by decide +kernel
theorem dX6_read_4 : decode cX6_read 4 = .ok (.invokevirtual 198, 3) := by decide +kernel
theorem dX6_read_7 : decode cX6_read 7 = .ok (.aload_n 0, 1) := by decide +kernel
theorem dX6_read_8 : decode cX6_read 8 = .ok (.getfield 53, 3) := by decide +kernel
theorem dX6_read_11 : decode cX6_read 11 = .ok (.getfield 201, 3) := by decide +kernel
theorem dX6_read_14 : decode cX6_read 14 = .ok (.ifCond .eq 6, 3) := by decide +kernel
theorem dX6_read_17 : decode cX6_read 17 = .ok (.bipush (-2), 2) := by decide +kernel
theorem dX6_read_19 : decode cX6_read 19 = .ok (.ireturn, 1) := by decide +kernel
theorem dX6_read_20 : decode cX6_read 20 = .ok (.aload_n 0, 1) := by decide +kernel
theorem dX6_read_21 : decode cX6_read 21 = .ok (.getfield 19, 3) := by decide +kernel
theorem dX6_read_24 : decode cX6_read 24 = .ok (.aload_n 0, 1) := by decide +kernel
theorem dX6_read_25 : decode cX6_read 25 = .ok (.getfield 10, 3) := by decide +kernel
theorem dX6_read_28 : decode cX6_read 28 = .ok (.invokevirtual 65, 3) := by decide +kernel
theorem dX6_read_31 : decode cX6_read 31 = .ok (.aload_n 0, 1) := by decide +kernel
theorem dX6_read_32 : decode cX6_read 32 = .ok (.getfield 10, 3) := by decide +kernel
theorem dX6_read_35 : decode cX6_read 35 = .ok (.aload_n 0, 1) := by decide +kernel
theorem dX6_read_36 : decode cX6_read 36 = .ok (.getfield 53, 3) := by decide +kernel
theorem dX6_read_39 : decode cX6_read 39 = .ok (.getfield 207, 3) := by decide +kernel
theorem dX6_read_42 : decode cX6_read 42 = .ok (.invokevirtual 210, 3) := by decide +kernel
theorem dX6_read_45 : decode cX6_read 45 = .ok (.aload_n 0, 1) := by decide +kernel
theorem dX6_read_46 : decode cX6_read 46 = .ok (.getfield 28, 3) := by decide +kernel
theorem dX6_read_49 : decode cX6_read 49 = .ok (.invokevirtual 121, 3) := by decide +kernel
theorem dX6_read_52 : decode cX6_read 52 = .ok (.ireturn, 1) := by decide +kernel
theorem dX6_isWorker_0 : decode cX6_isWorker 0 = .ok (.iload_n 1, 1) := by decide +kernel
theorem dX6_isWorker_1 : decode cX6_isWorker 1 = .ok (.ifCond .lt 18, 3) := by decide +kernel
theorem dX6_isWorker_4 : decode cX6_isWorker 4 = .ok (.iload_n 1, 1) := by decide +kernel
theorem dX6_isWorker_5 : decode cX6_isWorker 5 = .ok (.aload_n 0, 1) := by decide +kernel
theorem dX6_isWorker_6 : decode cX6_isWorker 6 = .ok (.getfield 10, 3) := by decide +kernel
theorem dX6_isWorker_9 : decode cX6_isWorker 9 = .ok (.getfield 61, 3) := by decide +kernel
theorem dX6_isWorker_12 : decode cX6_isWorker 12 = .ok (.if_icmp .ge 7, 3) := by decide +kernel
theorem dX6_isWorker_15 : decode cX6_isWorker 15 = .ok (.iconst 1, 1) := by decide +kernel
theorem dX6_isWorker_16 : decode cX6_isWorker 16 = .ok (.goto 4, 3) := by decide +kernel
theorem dX6_isWorker_19 : decode cX6_isWorker 19 = .ok (.iconst 0, 1) := by decide +kernel
theorem dX6_isWorker_20 : decode cX6_isWorker 20 = .ok (.ireturn, 1) := by decide +kernel
theorem dX6_isTask_0 : decode cX6_isTask 0 = .ok (.iload_n 1, 1) := by decide +kernel
theorem dX6_isTask_1 : decode cX6_isTask 1 = .ok (.ifCond .lt 18, 3) := by decide +kernel
theorem dX6_isTask_4 : decode cX6_isTask 4 = .ok (.iload_n 1, 1) := by decide +kernel
theorem dX6_isTask_5 : decode cX6_isTask 5 = .ok (.aload_n 0, 1) := by decide +kernel
theorem dX6_isTask_6 : decode cX6_isTask 6 = .ok (.getfield 10, 3) := by decide +kernel
theorem dX6_isTask_9 : decode cX6_isTask 9 = .ok (.getfield 72, 3) := by decide +kernel
theorem dX6_isTask_12 : decode cX6_isTask 12 = .ok (.if_icmp .ge 7, 3) := by decide +kernel
theorem dX6_isTask_15 : decode cX6_isTask 15 = .ok (.iconst 1, 1) := by decide +kernel
theorem dX6_isTask_16 : decode cX6_isTask 16 = .ok (.goto 4, 3) := by decide +kernel
theorem dX6_isTask_19 : decode cX6_isTask 19 = .ok (.iconst 0, 1) := by decide +kernel
theorem dX6_isTask_20 : decode cX6_isTask 20 = .ok (.ireturn, 1) := by decide +kernel
set_option maxRecDepth 20000 in
theorem ggX6_isTaskOrNone_X6_isTask : GoodIn wsX6_isTaskOrNone wsX6_isTask := goodIn_r _ [5, 6, 7, 8, 9, 10, 11, 12, 13, 14, 15, 16, 17] (by decide +kernel) (by decide +kernel)
set_option maxRecDepth 20000 in
theorem gX6_isTaskOrNone_X6_isTask : GoodIn wsX6_isTaskOrNone (wsV RX6 84 RX6 yX6_isTask wsX6_isTask) := goodIn_app (goodIn_of _ (by decide +kernel)) ggX6_isTaskOrNone_X6_isTask
theorem dX6_isTaskOrNone_0 : decode cX6_isTaskOrNone 0 = .ok (.iload_n 1, 1) := by decide +kernel
theorem dX6_isTaskOrNone_1 : decode cX6_isTaskOrNone 1 = .ok (.iconst (-1), 1) := by decide +kernel
theorem dX6_isTaskOrNone_2 : decode cX6_isTaskOrNone 2 = .ok (.if_icmp .eq 11, 3) := by decide +kernel
theorem dX6_isTaskOrNone_5 : decode cX6_isTaskOrNone 5 = .ok (.aload_n 0, 1) := by decide +kernel
theorem dX6_isTaskOrNone_6 : decode cX6_isTaskOrNone 6 = .ok (.iload_n 1, 1) := by decide +kernel
theorem dX6_isTaskOrNone_7 : decode cX6_isTaskOrNone 7 = .ok (.invokevirtual 84, 3) := by decide +kernel
theorem dX6_isTaskOrNone_10 : decode cX6_isTaskOrNone 10 = .ok (.ifCond .eq 7, 3) := by decide +kernel
theorem dX6_isTaskOrNone_13 : decode cX6_isTaskOrNone 13 = .ok (.iconst 1, 1) := by decide +kernel
theorem dX6_isTaskOrNone_14 : decode cX6_isTaskOrNone 14 = .ok (.goto 4, 3) := by decide +kernel
theorem dX6_isTaskOrNone_17 : decode cX6_isTaskOrNone 17 = .ok (.iconst 0, 1) := by decide +kernel
theorem dX6_isTaskOrNone_18 : decode cX6_isTaskOrNone 18 = .ok (.ireturn, 1) := by decide +kernel
theorem dX6_isCost_0 : decode cX6_isCost 0 = .ok (.iload_n 0, 1) := by decide +kernel
theorem dX6_isCost_1 : decode cX6_isCost 1 = .ok (.ifCond .lt 14, 3) := by decide +kernel
theorem dX6_isCost_4 : decode cX6_isCost 4 = .ok (.iload_n 0, 1) := by decide +kernel
theorem dX6_isCost_5 : decode cX6_isCost 5 = .ok (.sipush 9999, 3) := by decide +kernel
theorem dX6_isCost_8 : decode cX6_isCost 8 = .ok (.if_icmp .gt 7, 3) := by decide +kernel
theorem dX6_isCost_11 : decode cX6_isCost 11 = .ok (.iconst 1, 1) := by decide +kernel
theorem dX6_isCost_12 : decode cX6_isCost 12 = .ok (.goto 4, 3) := by decide +kernel
theorem dX6_isCost_15 : decode cX6_isCost 15 = .ok (.iconst 0, 1) := by decide +kernel
theorem dX6_isCost_16 : decode cX6_isCost 16 = .ok (.ireturn, 1) := by decide +kernel
set_option maxRecDepth 20000 in
theorem ggX6_changePair_X1_leastTotal : GoodIn wsX6_changePair wsX1_leastTotal := goodIn_r _ [9, 10, 11, 12, 13, 14, 15, 16, 17, 18, 19, 8, 20, 21, 22, 23, 24, 25, 26, 27, 28, 29, 30, 31, 32, 33, 34, 35, 36, 37, 38, 39, 40, 41, 42, 71, 72, 73, 74, 67, 68, 69, 70] (by decide +kernel) (by decide +kernel)
set_option maxRecDepth 20000 in
theorem gX6_changePair_X1_leastTotal : GoodIn wsX6_changePair (wsV RX6 121 RX1 yX1_leastTotal wsX1_leastTotal) := goodIn_app (goodIn_of _ (by decide +kernel)) ggX6_changePair_X1_leastTotal
set_option maxRecDepth 20000 in
theorem ggX6_changePair_X0_keep : GoodIn wsX6_changePair wsX0_keep := goodIn_r _ [47, 48, 49, 50, 51, 52, 46, 53, 54, 55, 56, 14, 57, 16, 58, 59, 60, 75, 76, 67, 68, 69, 70] (by decide +kernel) (by decide +kernel)
set_option maxRecDepth 20000 in
theorem gX6_changePair_X0_keep : GoodIn wsX6_changePair (wsV RX6 65 RX0 yX0_keep wsX0_keep) := goodIn_app (goodIn_of _ (by decide +kernel)) ggX6_changePair_X0_keep
theorem dX6_changePair_0 : decode cX6_changePair 0 = .ok (.aload_n 0, 1) := by decide +kernel
theorem dX6_changePair_1 : decode cX6_changePair 1 = .ok (.getfield 28, 3) := by decide +kernel
theorem dX6_changePair_4 : decode cX6_changePair 4 = .ok (.invokevirtual 121, 3) := by decide +kernel
theorem dX6_changePair_7 : decode cX6_changePair 7 = .ok (.istore 4, 2) := by decide +kernel
theorem dX6_changePair_9 : decode cX6_changePair 9 = .ok (.aload_n 0, 1) := by decide +kernel
theorem dX6_changePair_10 : decode cX6_changePair 10 = .ok (.getfield 19, 3) := by decide +kernel
theorem dX6_changePair_13 : decode cX6_changePair 13 = .ok (.aload_n 0, 1) := by decide +kernel
theorem dX6_changePair_14 : decode cX6_changePair 14 = .ok (.getfield 10, 3) := by decide +kernel
theorem dX6_changePair_17 : decode cX6_changePair 17 = .ok (.invokevirtual 65, 3) := by decide +kernel
theorem dX6_changePair_20 : decode cX6_changePair 20 = .ok (.aload_n 0, 1) := by decide +kernel
theorem dX6_changePair_21 : decode cX6_changePair 21 = .ok (.getfield 10, 3) := by decide +kernel
theorem dX6_changePair_24 : decode cX6_changePair 24 = .ok (.getfield 213, 3) := by decide +kernel
theorem dX6_changePair_27 : decode cX6_changePair 27 = .ok (.iload_n 1, 1) := by decide +kernel
theorem dX6_changePair_28 : decode cX6_changePair 28 = .ok (.aaload, 1) := by decide +kernel
theorem dX6_changePair_29 : decode cX6_changePair 29 = .ok (.iload_n 2, 1) := by decide +kernel
theorem dX6_changePair_30 : decode cX6_changePair 30 = .ok (.iload_n 3, 1) := by decide +kernel
theorem dX6_changePair_31 : decode cX6_changePair 31 = .ok (.iastore, 1) := by decide +kernel
theorem dX6_changePair_32 : decode cX6_changePair 32 = .ok (.aload_n 0, 1) := by decide +kernel
theorem dX6_changePair_33 : decode cX6_changePair 33 = .ok (.getfield 28, 3) := by decide +kernel
theorem dX6_changePair_36 : decode cX6_changePair 36 = .ok (.invokevirtual 121, 3) := by decide +kernel
theorem dX6_changePair_39 : decode cX6_changePair 39 = .ok (.iload 4, 2) := by decide +kernel
theorem dX6_changePair_41 : decode cX6_changePair 41 = .ok (.isub, 1) := by decide +kernel
theorem dX6_changePair_42 : decode cX6_changePair 42 = .ok (.ireturn, 1) := by decide +kernel
end
section
/-! MY CONTRACTS: the class's face -/
section LONGS
variable {E : EV} {ad : Int → Nat} {cc : ByteArray} {nL : Nat} {own : String} {Ts : List Cond} {fr lo : Nat} {σ : St} {pc : Nat} {lv : List (Option Value)} {st : List Value}
theorem LV.put2 {ls' : Array Slot} {nL : Nat} {lv lv' : List (Option Value)} {i : Nat} {x : Value} (h : lv_has ls' nL ((i, x) :: (lvl lv).filter (fun q => !(q.1 == i) && (!(q.1 == i + 1) && !(q.1 + 1 == i && q.2.category == 2))))) (hl : lv' = (lv.set i (some x)).set (i + 1) none) (hc : ∀ v, lv[i - 1]? = some (some v) → i = 0 ∨ v.category = 1) : LV ls' nL lv' := by
  refine ⟨h.1, h.2.1, fun j v hv => ?_⟩
  rw [hl] at hv
  by_cases h1 : j = i + 1
  · subst h1
    by_cases hlen : i + 1 < (lv.set i (some x)).length
    · rw [List.getElem?_set_self hlen] at hv; cases hv
    · rw [List.getElem?_eq_none (by rw [List.length_set]; omega)] at hv; cases hv
  · rw [List.getElem?_set_ne (Ne.symm h1)] at hv
    by_cases hj : j = i
    · subst hj
      have hlt : j < lv.length := by
        have := (List.getElem?_eq_some_iff.mp hv).1
        rwa [List.length_set] at this
      rw [List.getElem?_set_self hlt] at hv
      cases hv
      exact h.2.2 (j, x) List.mem_cons_self
    · rw [List.getElem?_set_ne (Ne.symm hj)] at hv
      refine h.2.2 (j, v) (List.mem_cons_of_mem _ (List.mem_filter.mpr ⟨lvl_mem.mpr hv, ?_⟩))
      by_cases h2 : j + 1 = i
      · have := hc v (by rw [← h2]; exact hv)
        have h3 : v.category = 1 := by
          rcases this with h4 | h4
          · omega
          · exact h4
        simp [hj, h1, h3]
      · simp [hj, h1, h2]
theorem g_lstore3 (X : Cx E ad cc nL own Ts fr lo) {a b d u w : Option Value} {r : List (Option Value)} {x : Int64} (hdg : decode cc pc = .ok (.lstore_n 3, 1)) (hn : 4 < nL) (hc : d = none ∨ ∃ v, d = some v ∧ v.category = 1) (k : WG E ad nL σ (pc + 1) (a :: b :: d :: some (.long x) :: none :: r) st) : WG E ad nL σ pc (a :: b :: d :: u :: w :: r) (.long x :: st) := by
  obtain ⟨p, l, e, R, s, m, args, below, meth, c, Q, D, cy, A, kc, ks⟩ := E
  obtain ⟨hx, hb, hml, hown, hts, hK, hAp, hAA, hkc, hks, hfr, hlo⟩ := X
  intro hR H locs ls hP hS hl
  refine lv_lstore_n (i := 3) hx hb hdg rfl hl.has (by omega) rfl (fun ls2 hl2 => ?_)
  exact k hR H locs ls2 hP hS (LV.put2 hl2 rfl (fun v hv => Or.inr (by
    have e9 : d = some v := Option.some.inj hv
    rcases hc with h9 | ⟨v9, h9, h8⟩
    · rw [h9] at e9; cases e9
    · rw [h9] at e9; cases e9; exact h8)))
end LONGS
def lL (z : Int) : Int64 := Int64.ofInt z
def InL (z : Int) : Prop := -9223372036854775808 ≤ z ∧ z < 9223372036854775808
theorem lL_toInt {z : Int} (h : InL z) : (lL z).toInt = z := by
  unfold lL
  obtain ⟨h1, h2⟩ := h
  exact Int64.toInt_ofInt_of_le (by omega) (by omega)
theorem iI_l {a : Int} (h : InR a) : (iI a).toInt64 = lL a := by
  rw [← Int64.toInt_inj, Int32.toInt_toInt64, iI_toInt h, lL_toInt ⟨by have := h.1; omega, by have := h.2; omega⟩]
theorem lL_mul (a b : Int) : lL a * lL b = lL (a * b) := (Int64.ofInt_mul a b).symm
theorem lL_i {a : Int} (h : InR a) : (lL a).toInt32 = iI a := by
  rw [← iI_l h]
  exact Int32.toInt32_toInt64 (iI a)
def c3 (a b : Int) : Int := if a < b then -1 else if a = b then 0 else 1
theorem lL_cmp {a b : Int} (ha : InL a) (hb : InL b) : lg_cmp (lL a) (lL b) = iI (c3 a b) := by
  have e1 : lL a < lL b ↔ a < b := by rw [Int64.lt_iff_toInt_lt, lL_toInt ha, lL_toInt hb]
  have e2 : lL b < lL a ↔ b < a := by rw [Int64.lt_iff_toInt_lt, lL_toInt ha, lL_toInt hb]
  have e3 : lL a = lL b ↔ a = b := by rw [← Int64.toInt_inj, lL_toInt ha, lL_toInt hb]
  unfold c3
  by_cases h1 : a < b
  · rw [if_pos h1]
    have h2 := e1.mpr h1
    have h3 : ¬ lL b < lL a := fun h => by have := e2.mp h; omega
    have h4 : ¬ lL a = lL b := fun h => by have := e3.mp h; omega
    simp [lg_cmp, h2, h3, h4]
    rfl
  · rw [if_neg h1]
    have h2 : ¬ lL a < lL b := fun h => h1 (e1.mp h)
    by_cases h5 : a = b
    · rw [if_pos h5]
      subst h5
      simp [lg_cmp]
      rfl
    · rw [if_neg h5]
      have h3 : lL b < lL a := e2.mpr (by omega)
      have h4 : ¬ lL a = lL b := fun h => h5 (e3.mp h)
      simp [lg_cmp, h2, h3, h4]
      rfl
/-- what nobody sees may differ: the plans', prices', reader's scratch -/
def VE (σ σ' : St) : Prop := ∀ q k, q ≠ 3 → q ≠ 4 → q ≠ 7 → q ≠ 10 → ¬ (61 ≤ q ∧ q ≤ 78) → σ' q k = σ q k
def CI (σ : St) : Prop := (∀ t, 0 ≤ t → t < 6 → TOK σ t) ∧ HP σ ∧ TXK σ
def QQ (σ σ' : St) : Prop := VE σ σ' ∧ TOK σ' 5
theorem TOK.keep {σ σ' : St} {t : Int} (h : TOK σ t) (hk : ∀ q k, TB t ≤ q → q ≤ TB t + 9 → σ' q k = σ q k) : TOK σ' t := by
  refine ⟨?_, ?_, fun w h1 h2 => ?_, fun w j h1 h2 h3 h4 => ?_⟩
  · rw [hk _ _ (by omega) (by omega)]; exact h.1
  · rw [hk _ _ (by omega) (by omega)]; exact h.2.1
  · rw [hk _ _ (by unfold TI TB; omega) (by unfold TI TB; omega)]; exact h.2.2.1 w h1 h2
  · rw [hk _ _ (by unfold TR TB; omega) (by unfold TR TB; omega)]; exact h.2.2.2 w j h1 h2 h3 h4
theorem CI.of {σ σ' : St} (h : CI σ) (hq : QQ σ σ') : CI σ' := by
  obtain ⟨h1, h2, h3⟩ := h
  obtain ⟨q1, q2⟩ := hq
  refine ⟨fun t a b => ?_, ?_, h3.of (q1 _ _ (by omega) (by omega) (by omega) (by omega) (by omega)) (fun k => q1 _ _ (by omega) (by omega) (by omega) (by omega) (by omega))⟩
  · by_cases ht : t = 5
    · rw [ht]; exact q2
    · exact (h1 t a b).keep (fun q k c1 c2 => by unfold TB at c1 c2; exact q1 q k (by omega) (by omega) (by omega) (by omega) (by omega))
  · obtain ⟨g1, g2, g3⟩ := h2
    have e : ∀ k, σ' 2 k = σ 2 k := fun k => q1 _ _ (by omega) (by omega) (by omega) (by omega) (by omega)
    refine ⟨?_, fun i a b => ?_, fun i j a b c => ?_⟩
    · rw [q1 1 0 (by omega) (by omega) (by omega) (by omega) (by omega)]; exact g1
    · rw [e]; exact g2 i a b
    · rw [e, e]; exact g3 i j a b c
theorem FR.qq {σ σ' : St} (hT : TOK σ 5) (h : FR σ σ') : QQ σ σ' := ⟨fun q k _ _ _ _ h5 => h q k (by omega), hT.keep (fun q k c1 c2 => h q k (by unfold TB at c2; omega))⟩
theorem CH.qq {σ σ' : St} (hT : TOK σ 5) (h : CH σ σ') : QQ σ σ' := ⟨fun q k h3 h4 _ _ h5 => h.1 q k h3 h4 (by omega), hT.keep (fun q k c1 c2 => by unfold TB at c1 c2; exact h.1 q k (by omega) (by omega) (by omega))⟩
theorem FR7.qq {σ σ' : St} (hT : TOK σ 5) (h : FR7 σ σ') : QQ σ σ' := ⟨fun q k _ _ h7 _ h5 => h q k h7 (by omega), hT.keep (fun q k c1 c2 => by unfold TB at c1 c2; exact h q k (by omega) (by omega))⟩
theorem QQ.rf {σ : St} (hT : TOK σ 5) : QQ σ σ := ⟨fun _ _ _ _ _ _ _ => rfl, hT⟩
theorem QQ.tr {σ σ' σ'' : St} (h1 : QQ σ σ') (h2 : QQ σ' σ'') : QQ σ σ'' := ⟨fun q k a b c d e => (h2.1 q k a b c d e).trans (h1.1 q k a b c d e), h2.2⟩
def iW (σ : St) (w : Int) : Int := if 0 ≤ w ∧ w < σ (TB 0) 0 then 1 else 0
def iK (σ : St) (j : Int) : Int := if 0 ≤ j ∧ j < σ (TB 0) 1 then 1 else 0
def iN (σ : St) (j : Int) : Int := if j = -1 ∨ (0 ≤ j ∧ j < σ (TB 0) 1) then 1 else 0
def iC (x : Int) : Int := if 0 ≤ x ∧ x ≤ 9999 then 1 else 0
theorem if01 {c : Prop} {d : Decidable c} : ((if c then (1 : Int) else 0) = 1 ∧ c) ∨ ((if c then (1 : Int) else 0) = 0 ∧ ¬ c) := by
  by_cases h : c
  · rw [if_pos h]; exact Or.inl ⟨rfl, h⟩
  · rw [if_neg h]; exact Or.inr ⟨rfl, h⟩
theorem iW_01 (σ : St) (w : Int) : (iW σ w = 1 ∧ 0 ≤ w ∧ w < σ (TB 0) 0) ∨ (iW σ w = 0 ∧ ¬ (0 ≤ w ∧ w < σ (TB 0) 0)) := if01
theorem iK_01 (σ : St) (w : Int) : (iK σ w = 1 ∧ 0 ≤ w ∧ w < σ (TB 0) 1) ∨ (iK σ w = 0 ∧ ¬ (0 ≤ w ∧ w < σ (TB 0) 1)) := if01
theorem iN_01 (σ : St) (w : Int) : (iN σ w = 1 ∧ (w = -1 ∨ (0 ≤ w ∧ w < σ (TB 0) 1))) ∨ (iN σ w = 0 ∧ ¬ (w = -1 ∨ (0 ≤ w ∧ w < σ (TB 0) 1))) := if01
theorem iC_01 (x : Int) : (iC x = 1 ∧ 0 ≤ x ∧ x ≤ 9999) ∨ (iC x = 0 ∧ ¬ (0 ≤ x ∧ x ≤ 9999)) := if01
/-- what the history's keeping leaves -/
theorem kp_o (σ : St) (h : HP σ) : ∀ q k, q ≠ 1 → q ≠ 2 → ¬ (21 ≤ q ∧ q ≤ 60) → kp σ q k = σ q k := by
  intro q k h1 h2 h3
  obtain ⟨g1, g2, -⟩ := (kp0_HP h).1
  have g4 := (kp0_HP h).2
  have g5 := g2 (kp0 σ 1 0) (by omega) (by omega)
  have e0 : ∀ a b, a ≠ 1 → a ≠ 2 → kp0 σ a b = σ a b := fun a b c1 c2 => by
    unfold kp0
    by_cases e : σ 1 0 = 4
    · rw [if_pos e]; exact (dOm_at σ).2 a b c1 c2
    · rw [if_neg e]
  unfold kp up
  rw [if_neg (fun h => h1 h.1), ← e0 q k h1 h2]
  unfold cpT cpL
  simp only [TB, TI, TR]
  repeat' refine ite_l (fun h => ?_) (fun h => ?_)
  all_goals omega
theorem cpT_b {σ : St} {t u : Int} : (∀ k, k = 0 ∨ k = 1 → cpT σ t u (TB t) k = σ (TB u) k) ∧ (∀ k, 0 ≤ k → k < 7 → cpT σ t u (TI t) k = σ (TI u) k) ∧ (∀ r k, 0 ≤ r → r < 7 → 0 ≤ k → k < 7 → cpT σ t u (TR t r) k = σ (TR u r) k) ∧ ∀ q k, ¬ (TB t ≤ q ∧ q ≤ TB t + 9) → cpT σ t u q k = σ q k := by
  refine ⟨fun k hk => ?_, fun k h1 h2 => ?_, fun r k h1 h2 h3 h4 => ?_, fun q k h => ?_⟩
  · unfold cpT cpL; rw [if_pos ⟨rfl, hk⟩]
  · unfold cpT cpL; rw [if_neg (by unfold TI TB; omega), if_pos ⟨rfl, h1, h2⟩]
  · unfold cpT cpL; rw [if_neg (by unfold TR TB; omega), if_neg (by unfold TR TI; omega), if_pos (by unfold TR; omega)]
    exact st_c (by unfold TR; omega) rfl
  · unfold cpT cpL
    unfold TB at h
    rw [if_neg (by unfold TB; omega), if_neg (by unfold TI; omega), if_neg (by unfold TR; omega), if_neg (by unfold TR; omega)]
theorem TOK.cp {σ : St} {t u : Int} (h : TOK σ u) : TOK (cpT σ t u) t := by
  obtain ⟨c1, c2, c3, -⟩ := cpT_b (σ := σ) (t := t) (u := u)
  refine ⟨by rw [c1 0 (Or.inl rfl)]; exact h.1, by rw [c1 1 (Or.inr rfl)]; exact h.2.1, fun w a b => by rw [c2 w a b]; exact h.2.2.1 w a b, fun w j a b c d => by rw [c3 w j a b c d]; exact h.2.2.2 w j a b c d⟩
theorem CI.kept {σ : St} (h : CI σ) : CI (kp σ) := by
  obtain ⟨h1, h2, h3⟩ := h
  have hk := kp0_HP h2
  obtain ⟨g1, g2, g3⟩ := hk.1
  have g4 := hk.2
  have g5 := g2 (kp0 σ 1 0) (by omega) (by omega)
  have e0 : ∀ a b, a ≠ 1 → a ≠ 2 → kp0 σ a b = σ a b := fun a b c1 c2 => by
    unfold kp0
    by_cases e : σ 1 0 = 4
    · rw [if_pos e]; exact (dOm_at σ).2 a b c1 c2
    · rw [if_neg e]
  have hT0 : ∀ t, 0 ≤ t → t < 6 → TOK (kp0 σ) t := fun t a b => (h1 t a b).keep (fun q k c1 c2 => by unfold TB at c1; exact e0 q k (by omega) (by omega))
  have o12 : ∀ q k, q < 11 → q ≠ 1 → kp σ q k = kp0 σ q k := fun q k a b => by
    unfold kp up
    rw [if_neg (fun h => b h.1)]
    exact cpT_1 (by omega) (by omega)
  have e1 : kp σ 1 0 = kp0 σ 1 0 + 1 := by unfold kp up; rw [if_pos ⟨rfl, rfl⟩]
  refine ⟨fun t a b => ?_, ⟨by rw [e1]; omega, fun i a b => by rw [o12 2 i (by omega) (by omega)]; exact g2 i a b, fun i j a b c => by rw [o12 2 i (by omega) (by omega), o12 2 j (by omega) (by omega)]; exact g3 i j a b c⟩, ?_⟩
  · have hup : ∀ q k, TB t ≤ q → kp σ q k = cpT (kp0 σ) (kp0 σ 2 (kp0 σ 1 0)) 0 q k := fun q k c => by
      unfold kp up
      rw [if_neg (by unfold TB at c; omega)]
    by_cases ht : t = kp0 σ 2 (kp0 σ 1 0)
    · refine TOK.keep (σ := cpT (kp0 σ) (kp0 σ 2 (kp0 σ 1 0)) 0) ?_ (fun q k c _ => hup q k c)
      rw [ht]
      exact (hT0 0 (by omega) (by omega)).cp
    · refine (hT0 t a b).keep (fun q k c d => ?_)
      rw [hup q k c]
      exact cpT_b.2.2.2 q k (by unfold TB at c d ⊢; omega)
  · exact h3.of (by rw [kp_o σ h2 8 0 (by omega) (by omega) (by omega)]) (fun k => by rw [kp_o σ h2 9 k (by omega) (by omega) (by omega)])
theorem kp_T0 {σ : St} (h : HP σ) : kp σ (TB 0) 0 = σ (TB 0) 0 ∧ kp σ (TB 0) 1 = σ (TB 0) 1 ∧ (∀ k, kp σ (TI 0) k = σ (TI 0) k) ∧ ∀ w k, 0 ≤ w → w < 7 → kp σ (TR 0 w) k = σ (TR 0 w) k :=
  ⟨kp_o σ h _ _ (by unfold TB; omega) (by unfold TB; omega) (by unfold TB; omega), kp_o σ h _ _ (by unfold TB; omega) (by unfold TB; omega) (by unfold TB; omega), fun k => kp_o σ h _ _ (by unfold TI; omega) (by unfold TI; omega) (by unfold TI; omega), fun w k a b => kp_o σ h _ _ (by unfold TR; omega) (by unfold TR; omega) (by unfold TR; omega)⟩
/-- kept after a weighing: the same but the rows -/
theorem kp_FR {σ σ' : St} (h : HP σ) (hF : FR σ σ') : FR (kp σ) (kp σ') := by
  have e : ∀ q k, q < 71 → σ' q k = σ q k := fun q k a => hF q k (Or.inl a)
  have e0 : ∀ q k, (q < 71 ∨ 79 ≤ q) → kp0 σ' q k = kp0 σ q k := fun q k a => by
    unfold kp0
    rw [e 1 0 (by omega)]
    by_cases c : σ 1 0 = 4
    · rw [if_pos c, if_pos c]
      unfold dOm dOl up
      dsimp only
      rw [e 2 0 (by omega), e 2 (k + 1) (by omega), hF q k a]
    · rw [if_neg c, if_neg c]; exact hF q k a
  have hk := kp0_HP h
  obtain ⟨g1, g2, -⟩ := hk.1
  have g5 := g2 (kp0 σ 1 0) (by omega) (by omega)
  intro q k a
  unfold kp up
  rw [e0 1 0 (by omega), e0 2 _ (by omega)]
  by_cases c : q = 1 ∧ k = 0
  · rw [if_pos c, if_pos c]
  · rw [if_neg c, if_neg c]
    unfold cpT cpL
    by_cases c1 : q = TB (kp0 σ 2 (kp0 σ 1 0)) ∧ (k = 0 ∨ k = 1)
    · rw [if_pos c1, if_pos c1]; exact e0 _ _ (by unfold TB; omega)
    · rw [if_neg c1, if_neg c1]
      by_cases c2 : q = TI (kp0 σ 2 (kp0 σ 1 0)) ∧ 0 ≤ k ∧ k < 7
      · rw [if_pos c2, if_pos c2]; exact e0 _ _ (by unfold TI; omega)
      · rw [if_neg c2, if_neg c2]
        by_cases c3 : TR (kp0 σ 2 (kp0 σ 1 0)) 0 ≤ q ∧ q < TR (kp0 σ 2 (kp0 σ 1 0)) 7 ∧ 0 ≤ k ∧ k < 7
        · rw [if_pos c3, if_pos c3]; unfold TR at c3; exact e0 _ _ (by omega)
        · rw [if_neg c3, if_neg c3]
          by_cases c4 : q = TR (kp0 σ 2 (kp0 σ 1 0)) 7 ∧ 0 ≤ k ∧ k < 0
          · omega
          · rw [if_neg c4, if_neg c4]; exact e0 q k a
set_option maxHeartbeats 4000000 in
set_option maxRecDepth 100000 in
theorem k_X6_isWorker (E0 : EV) {ad : Int → Nat} {σ : St} {w : Int} (hT0 : TOK σ 0) (hx : InR w) : MGE E0 yX6_isWorker wsX6_isWorker 0 0 ad σ [.ref (ad 0), .int (iI w)] (PF (iW σ w) σ) := by
  refine MGE.of (cc := cX6_isWorker) (maxL := 2) (ret := (some .boolean)) (own := RX6) [some (.ref (ad 0)), some (.int (iI w))] (by decide +kernel) rfl rfl (Nat.le_of_ble_eq_true rfl) rfl rfl (fun E X hr => ?_)
  have i4 : ∀ w ∈ wsX40, w ∈ wsX6_isWorker := by decide +kernel
  have i6 : ∀ w ∈ wsX60, w ∈ wsX6_isWorker := by decide +kernel
  refine g_rg (fun hR0 => ?_)
  have hm := hT0.1
  have hn := hT0.2.1
  refine g_iload1 X dX6_isWorker_0 ?_
  refine g_if_lt (tgt := 19) X (by first | exact hR0 _ _ | assumption | (unfold InR; omega)) dX6_isWorker_1 (by decide) (fun h1 => ?_) (fun h1 => ?_)
  · skip
    refine g_iconst X dX6_isWorker_19 ?_
    exact g_zretF X hr (by first | exact Or.inl rfl | exact Or.inr rfl | omega) ⟨(by unfold iW; repeat (first | rw [if_pos (by omega)] | rw [if_neg (by omega)])), rfl⟩ dX6_isWorker_20
  · skip
    refine g_iload1 X dX6_isWorker_4 ?_
    refine g_aload0 X dX6_isWorker_5 ?_
    refine gf_6_table X i6 (by decide +kernel) dX6_isWorker_6 ?_
    refine gf_4_workers X (by omega) i4 (by decide +kernel) dX6_isWorker_9 ?_
    refine g_icmp_ge (tgt := 19) X (by first | exact hR0 _ _ | assumption | (unfold InR; omega)) (by first | exact hR0 _ _ | assumption | (unfold InR; omega)) dX6_isWorker_12 (by decide) (fun h12 => ?_) (fun h12 => ?_)
    · skip
      refine g_iconst X dX6_isWorker_19 ?_
      exact g_zretF X hr (by first | exact Or.inl rfl | exact Or.inr rfl | omega) ⟨(by unfold iW; repeat (first | rw [if_pos (by omega)] | rw [if_neg (by omega)])), rfl⟩ dX6_isWorker_20
    · skip
      refine g_iconst X dX6_isWorker_15 ?_
      refine g_goto (tgt := 20) X dX6_isWorker_16 (by decide) ?_
      exact g_zretF X hr (by first | exact Or.inl rfl | exact Or.inr rfl | omega) ⟨(by unfold iW; repeat (first | rw [if_pos (by omega)] | rw [if_neg (by omega)])), rfl⟩ dX6_isWorker_20

set_option maxHeartbeats 4000000 in
set_option maxRecDepth 100000 in
theorem k_X6_isTask (E0 : EV) {ad : Int → Nat} {σ : St} {w : Int} (hT0 : TOK σ 0) (hx : InR w) : MGE E0 yX6_isTask wsX6_isTask 0 0 ad σ [.ref (ad 0), .int (iI w)] (PF (iK σ w) σ) := by
  refine MGE.of (cc := cX6_isTask) (maxL := 2) (ret := (some .boolean)) (own := RX6) [some (.ref (ad 0)), some (.int (iI w))] (by decide +kernel) rfl rfl (Nat.le_of_ble_eq_true rfl) rfl rfl (fun E X hr => ?_)
  have i4 : ∀ w ∈ wsX40, w ∈ wsX6_isTask := by decide +kernel
  have i6 : ∀ w ∈ wsX60, w ∈ wsX6_isTask := by decide +kernel
  refine g_rg (fun hR0 => ?_)
  have hm := hT0.1
  have hn := hT0.2.1
  refine g_iload1 X dX6_isTask_0 ?_
  refine g_if_lt (tgt := 19) X (by first | exact hR0 _ _ | assumption | (unfold InR; omega)) dX6_isTask_1 (by decide) (fun h1 => ?_) (fun h1 => ?_)
  · skip
    refine g_iconst X dX6_isTask_19 ?_
    exact g_zretF X hr (by first | exact Or.inl rfl | exact Or.inr rfl | omega) ⟨(by unfold iK; repeat (first | rw [if_pos (by omega)] | rw [if_neg (by omega)])), rfl⟩ dX6_isTask_20
  · skip
    refine g_iload1 X dX6_isTask_4 ?_
    refine g_aload0 X dX6_isTask_5 ?_
    refine gf_6_table X i6 (by decide +kernel) dX6_isTask_6 ?_
    refine gf_4_tasks X (by omega) i4 (by decide +kernel) dX6_isTask_9 ?_
    refine g_icmp_ge (tgt := 19) X (by first | exact hR0 _ _ | assumption | (unfold InR; omega)) (by first | exact hR0 _ _ | assumption | (unfold InR; omega)) dX6_isTask_12 (by decide) (fun h12 => ?_) (fun h12 => ?_)
    · skip
      refine g_iconst X dX6_isTask_19 ?_
      exact g_zretF X hr (by first | exact Or.inl rfl | exact Or.inr rfl | omega) ⟨(by unfold iK; repeat (first | rw [if_pos (by omega)] | rw [if_neg (by omega)])), rfl⟩ dX6_isTask_20
    · skip
      refine g_iconst X dX6_isTask_15 ?_
      refine g_goto (tgt := 20) X dX6_isTask_16 (by decide) ?_
      exact g_zretF X hr (by first | exact Or.inl rfl | exact Or.inr rfl | omega) ⟨(by unfold iK; repeat (first | rw [if_pos (by omega)] | rw [if_neg (by omega)])), rfl⟩ dX6_isTask_20

set_option maxHeartbeats 4000000 in
set_option maxRecDepth 100000 in
theorem k_X6_isTaskOrNone (E0 : EV) {ad : Int → Nat} {σ : St} {w : Int} (hT0 : TOK σ 0) (hx2 : InR w) : MGE E0 yX6_isTaskOrNone wsX6_isTaskOrNone 1 21 ad σ [.ref (ad 0), .int (iI w)] (PF (iN σ w) σ) := by
  refine MGE.of (cc := cX6_isTaskOrNone) (maxL := 2) (ret := (some .boolean)) (own := RX6) [some (.ref (ad 0)), some (.int (iI w))] (by decide +kernel) rfl rfl (Nat.le_of_ble_eq_true rfl) rfl rfl (fun E X hr => ?_)
  refine g_rg (fun hR0 => ?_)
  have hn := hT0.2.1
  have hw := iK_01 σ w
  refine g_iload1 X dX6_isTaskOrNone_0 ?_
  refine g_iconst X dX6_isTaskOrNone_1 ?_
  refine g_icmp_eq (tgt := 13) X (by first | exact hR0 _ _ | assumption | (unfold InR; omega)) (by first | exact hR0 _ _ | assumption | (unfold InR; omega)) dX6_isTaskOrNone_2 (by decide) (fun h2 => ?_) (fun h2 => ?_)
  · skip
    refine g_iconst X dX6_isTaskOrNone_13 ?_
    refine g_goto (tgt := 18) X dX6_isTaskOrNone_14 (by decide) ?_
    exact g_zretF X hr (by first | exact Or.inl rfl | exact Or.inr rfl | omega) ⟨(by unfold iN; repeat (first | rw [if_pos (by omega)] | rw [if_neg (by omega)])), rfl⟩ dX6_isTaskOrNone_18
  · skip
    refine g_aload0 X dX6_isTaskOrNone_5 ?_
    refine g_iload1 X dX6_isTaskOrNone_6 ?_
    refine g_F1 X (k_X6_isTask E hT0 hx2) gX6_isTaskOrNone_X6_isTask rfl (by decide +kernel) (by decide) ob_0 (Nat.le_of_ble_eq_true rfl) dX6_isTaskOrNone_7 (fun hz7 => ?_)
    refine g_rg (fun hR7 => ?_)
    refine g_if_eq (tgt := 17) X (by first | exact hR7 _ _ | exact hR0 _ _ | assumption | (unfold InR; omega)) dX6_isTaskOrNone_10 (by decide) (fun h10 => ?_) (fun h10 => ?_)
    · skip
      refine g_iconst X dX6_isTaskOrNone_17 ?_
      exact g_zretF X hr (by first | exact Or.inl rfl | exact Or.inr rfl | omega) ⟨(by unfold iN; repeat (first | rw [if_pos (by omega)] | rw [if_neg (by omega)])), rfl⟩ dX6_isTaskOrNone_18
    · skip
      refine g_iconst X dX6_isTaskOrNone_13 ?_
      refine g_goto (tgt := 18) X dX6_isTaskOrNone_14 (by decide) ?_
      exact g_zretF X hr (by first | exact Or.inl rfl | exact Or.inr rfl | omega) ⟨(by unfold iN; repeat (first | rw [if_pos (by omega)] | rw [if_neg (by omega)])), rfl⟩ dX6_isTaskOrNone_18

set_option maxHeartbeats 4000000 in
set_option maxRecDepth 100000 in
theorem k_X6_isCost (E0 : EV) {ad : Int → Nat} {σ : St} {w : Int} (hx : InR w) : MGE E0 yX6_isCost wsX6_isCost 0 0 ad σ [.int (iI w)] (PF (iC w) σ) := by
  refine MGE.of (cc := cX6_isCost) (maxL := 1) (ret := (some .boolean)) (own := RX6) [some (.int (iI w))] (by decide +kernel) rfl rfl (Nat.le_of_ble_eq_true rfl) rfl rfl (fun E X hr => ?_)
  refine g_rg (fun hR0 => ?_)
  refine g_iload0 X dX6_isCost_0 ?_
  refine g_if_lt (tgt := 15) X (by first | exact hR0 _ _ | assumption | (unfold InR; omega)) dX6_isCost_1 (by decide) (fun h1 => ?_) (fun h1 => ?_)
  · skip
    refine g_iconst X dX6_isCost_15 ?_
    exact g_zretF X hr (by first | exact Or.inl rfl | exact Or.inr rfl | omega) ⟨(by unfold iC; repeat (first | rw [if_pos (by omega)] | rw [if_neg (by omega)])), rfl⟩ dX6_isCost_16
  · skip
    refine g_iload0 X dX6_isCost_4 ?_
    refine g_sipush X dX6_isCost_5 (by decide +kernel) ?_
    refine g_icmp_gt (tgt := 15) X (by first | exact hR0 _ _ | assumption | (unfold InR; omega)) (by first | exact hR0 _ _ | assumption | (unfold InR; omega)) dX6_isCost_8 (by decide) (fun h8 => ?_) (fun h8 => ?_)
    · skip
      refine g_iconst X dX6_isCost_15 ?_
      exact g_zretF X hr (by first | exact Or.inl rfl | exact Or.inr rfl | omega) ⟨(by unfold iC; repeat (first | rw [if_pos (by omega)] | rw [if_neg (by omega)])), rfl⟩ dX6_isCost_16
    · skip
      refine g_iconst X dX6_isCost_11 ?_
      refine g_goto (tgt := 16) X dX6_isCost_12 (by decide) ?_
      exact g_zretF X hr (by first | exact Or.inl rfl | exact Or.inr rfl | omega) ⟨(by unfold iC; repeat (first | rw [if_pos (by omega)] | rw [if_neg (by omega)])), rfl⟩ dX6_isCost_16

set_option maxHeartbeats 4000000 in
set_option maxRecDepth 100000 in
theorem k_X6_changePair (E0 : EV) {ad : Int → Nat} {σ : St} {w j c : Int} (hC : CI σ) (hw : 0 ≤ w ∧ w < 7) (hj : 0 ≤ j ∧ j < 7) (hc : -1 ≤ c ∧ c ≤ 9999) : MGE E0 yX6_changePair wsX6_changePair 5 114 ad σ [.ref (ad 0), .int (iI w), .int (iI j), .int (iI c)] (PI (fun z σ' => z = RW (up (kp σ) (TR 0 w) j c) (AW (up (kp σ) (TR 0 w) j c)) 0 0 - RW σ (AW σ) 0 0 ∧ QQ (up (kp σ) (TR 0 w) j c) σ')) := by
  refine MGE.of (cc := cX6_changePair) (maxL := 5) (ret := (some .int)) (own := RX6) [some (.ref (ad 0)), some (.int (iI w)), some (.int (iI j)), some (.int (iI c)), none] (by decide +kernel) rfl rfl (Nat.le_of_ble_eq_true rfl) rfl rfl (fun E X hr => ?_)
  have i4 : ∀ w ∈ wsX40, w ∈ wsX6_changePair := by decide +kernel
  have i6 : ∀ w ∈ wsX60, w ∈ wsX6_changePair := by decide +kernel
  refine g_rg (fun hR0 => ?_)
  have hT0 := hC.1 0 (by omega) (by omega)
  have hT5 := hC.1 5 (by omega) (by omega)
  have hm := hT0.1
  have hn := hT0.2.1
  have hzb := RW_b hT0 (AW σ) 0 0 (by omega)
  refine g_aload0 X dX6_changePair_0 ?_
  refine gf_6_plans X i6 (by decide +kernel) dX6_changePair_1 ?_
  refine g_I0 X (k_X1_leastTotal E hT0) gX6_changePair_X1_leastTotal rfl (by decide +kernel) (by decide) ob_3 (Nat.le_of_ble_eq_true rfl) dX6_changePair_4 (fun z4 σ4 hz4 hp4 => ?_)
  refine g_rg (fun hR4 => ?_)
  refine g_istore4 X dX6_changePair_7 (by decide) (by first | exact Or.inl rfl | exact Or.inr ⟨_, rfl, rfl⟩) ?_
  have hF4 := hp4.2.1
  have hC4 := hC.of (hF4.qq hT5)
  refine g_aload0 X dX6_changePair_9 ?_
  refine gf_6_history X i6 (by decide +kernel) dX6_changePair_10 ?_
  refine g_aload0 X dX6_changePair_13 ?_
  refine gf_6_table X i6 (by decide +kernel) dX6_changePair_14 ?_
  refine g_W1 X (k_X0_keep E hC4.2.1) gX6_changePair_X0_keep rfl (by decide +kernel) (by decide) ob_1 (Nat.le_of_ble_eq_true rfl) dX6_changePair_17 ?_
  refine g_rg (fun hR17 => ?_)
  refine g_aload0 X dX6_changePair_20 ?_
  refine gf_6_table X i6 (by decide +kernel) dX6_changePair_21 ?_
  refine gf_4_costs X (by omega) i4 (by decide +kernel) dX6_changePair_24 ?_
  refine g_iload1 X dX6_changePair_27 ?_
  refine g_aald_TC X (by omega) (by omega) dX6_changePair_28 ?_
  refine g_iload2 X dX6_changePair_29 ?_
  refine g_iload3 X dX6_changePair_30 ?_
  refine g_iast X (ia_TR (by omega) (by omega) (by omega)) (by first | exact hR17 _ _ | exact hR4 _ _ | exact hR0 _ _ | assumption | (unfold InR; omega)) dX6_changePair_31 ?_
  refine g_rg (fun hR31 => ?_)
  have hkF := kp_FR hC.2.1 hF4
  have hFu : FR (up (kp σ) (TR 0 w) j c) (up (kp σ4) (TR 0 w) j c) := fun q k a => by
    unfold up
    by_cases h : q = TR 0 w ∧ k = j
    · rw [if_pos h, if_pos h]
    · rw [if_neg h, if_neg h]; exact hkF q k a
  have hCk := hC.kept
  have hTu : TOK (up (kp σ) (TR 0 w) j c) 0 := by
    have hTk := hCk.1 0 (by omega) (by omega)
    refine ⟨?_, ?_, fun v a b => ?_, fun v i a b d e => ?_⟩
    · unfold up; rw [if_neg (by unfold TB TR; omega)]; exact hTk.1
    · unfold up; rw [if_neg (by unfold TB TR; omega)]; exact hTk.2.1
    · unfold up; rw [if_neg (by unfold TI TR; omega)]; exact hTk.2.2.1 v a b
    · unfold up
      by_cases h : TR 0 v = TR 0 w ∧ i = j
      · rw [if_pos h]; exact hc
      · rw [if_neg h]; exact hTk.2.2.2 v i a b d e
  have hT5u : TOK (up (kp σ) (TR 0 w) j c) 5 := (hCk.1 5 (by omega) (by omega)).keep (fun q k a b => by unfold up; rw [if_neg (by unfold TB at a; unfold TR; omega)])
  have hTu4 := hTu.of hFu
  refine g_aload0 X dX6_changePair_32 ?_
  refine gf_6_plans X i6 (by decide +kernel) dX6_changePair_33 ?_
  refine g_I0 X (k_X1_leastTotal E hTu4) gX6_changePair_X1_leastTotal rfl (by decide +kernel) (by decide) ob_3 (Nat.le_of_ble_eq_true rfl) dX6_changePair_36 (fun z36 σ36 hz36 hp36 => ?_)
  refine g_rg (fun hR36 => ?_)
  have hz2 : z36 = RW (up (kp σ) (TR 0 w) j c) (AW (up (kp σ) (TR 0 w) j c)) 0 0 := by rw [hp36.1, AW_FR hFu, RW_FR hTu hFu _ _ _ (by omega)]
  have hzb2 := RW_b hTu (AW (up (kp σ) (TR 0 w) j c)) 0 0 (by omega)
  have hz4 := hp4.1
  refine g_iload4 X dX6_changePair_39 ?_
  refine g_isub X dX6_changePair_41 ?_
  exact g_iret X hr (by first | exact hR36 _ _ | exact hR31 _ _ | exact hR17 _ _ | exact hR4 _ _ | exact hR0 _ _ | assumption | (unfold InR; omega)) ⟨by rw [hz2, hz4], (hFu.qq hT5u).tr (hp36.2.1.qq (hT5u.keep (fun q k a b => hFu q k (by unfold TB at b; omega))))⟩ dX6_changePair_42
end
section
/-! MY CONTRACTS: the class's face, its changes -/
theorem gC_b {σ : St} {t w : Int} (hT : TOK σ t) (hw : 0 ≤ w ∧ w < 7) : ∀ n : Nat, (n : Int) ≤ 7 → (σ (TI t) w ≤ gC σ t w n ∧ gC σ t w n ≤ 9999) ∧ ∀ j : Int, 0 ≤ j → j < n → σ (TR t w) j ≤ gC σ t w n := by
  intro n
  induction n with
  | zero => intro _; exact ⟨⟨Int.le_refl _, (hT.2.2.1 w hw.1 hw.2).2⟩, fun j h1 h2 => by omega⟩
  | succ n ih =>
    intro hn
    have ih' := ih (by omega)
    have e : ((n + 1 : Nat) : Int) = (n : Int) + 1 := by omega
    rw [e, gC_s (by omega)]
    have h1 := hT.2.2.2 w n hw.1 hw.2 (by omega) (by omega)
    refine ⟨by omega, fun j a b => ?_⟩
    by_cases hj : j = n
    · rw [hj]; omega
    · have := ih'.2 j a (by omega); omega
theorem gC_u {σ : St} {t w : Int} (hT : TOK σ t) (hw : 0 ≤ w ∧ w < 7) : (0 ≤ gC σ t w (σ (TB t) 1) ∧ gC σ t w (σ (TB t) 1) ≤ 9999) ∧ σ (TI t) w ≤ gC σ t w (σ (TB t) 1) ∧ ∀ j : Int, 0 ≤ j → j < σ (TB t) 1 → σ (TR t w) j ≤ gC σ t w (σ (TB t) 1) := by
  have hn := hT.2.1
  have h := gC_b hT hw (σ (TB t) 1).toNat (by omega)
  rw [Int.toNat_of_nonneg hn.1] at h
  have := hT.2.2.1 w hw.1 hw.2
  exact ⟨by omega, h.1.1, h.2⟩
theorem mul_b {a b f : Int} (h0 : 0 ≤ a) (h1 : a ≤ b) (hf : 0 ≤ f) (hb : b * f ≤ 9999) : 0 ≤ a * f ∧ a * f ≤ 9999 := ⟨Int.mul_nonneg h0 hf, Int.le_trans (Int.mul_le_mul_of_nonneg_right h1 hf) hb⟩
set_option maxHeartbeats 4000000 in
set_option maxRecDepth 100000 in
theorem k_X6_worker (E0 : EV) {ad : Int → Nat} {σ : St} {x1 : Int} (hC : CI σ)(hx1 : InR x1) : MGE E0 yX6_worker wsX6_worker 2 44 ad σ [.ref (ad 0), .int (iI x1)] (PF (if 0 ≤ x1 ∧ x1 ≤ 9999 then (if σ (TB 0) 0 < 7 then σ (TB 0) 0 else -3) else -1) (if (0 ≤ x1 ∧ x1 ≤ 9999) ∧ σ (TB 0) 0 < 7 then adW (kp σ) 0 x1 (kp σ (TB 0) 1) 1 else σ)) := by
  refine MGE.of (cc := cX6_worker) (maxL := 2) (ret := (some .int)) (own := RX6) [some (.ref (ad 0)), some (.int (iI x1))] (by decide +kernel) rfl rfl (Nat.le_of_ble_eq_true rfl) rfl rfl (fun E X hr => ?_)
  have i4 : ∀ w ∈ wsX40, w ∈ wsX6_worker := by decide +kernel
  have i6 : ∀ w ∈ wsX60, w ∈ wsX6_worker := by decide +kernel
  refine g_rg (fun hR0 => ?_)
  have hT0 := hC.1 0 (by omega) (by omega)
  have hT5 := hC.1 5 (by omega) (by omega)
  have hm := hT0.1
  have hn := hT0.2.1
  have hc := iC_01 x1
  refine g_iload1 X dX6_worker_0 ?_
  refine g_SF1 X (k_X6_isCost E hx1) gX6_worker_X6_isCost rfl (by decide +kernel) (by decide) (Nat.le_of_ble_eq_true rfl) dX6_worker_1 (fun hz1 => ?_)
  refine g_rg (fun hR1 => ?_)
  refine g_if_ne (tgt := 9) X (by first | exact hR1 _ _ | exact hR0 _ _ | assumption | (unfold InR; omega)) dX6_worker_4 (by decide) (fun h4 => ?_) (fun h4 => ?_)
  · skip
    refine g_aload0 X dX6_worker_9 ?_
    refine gf_6_table X i6 (by decide +kernel) dX6_worker_10 ?_
    refine gf_4_workers X (by omega) i4 (by decide +kernel) dX6_worker_13 ?_
    refine g_bipush X dX6_worker_16 (by decide +kernel) ?_
    refine g_icmp_lt (tgt := 24) X (by first | exact hR1 _ _ | exact hR0 _ _ | assumption | (unfold InR; omega)) (by first | exact hR1 _ _ | exact hR0 _ _ | assumption | (unfold InR; omega)) dX6_worker_18 (by decide) (fun h18 => ?_) (fun h18 => ?_)
    · skip
      have kT := kp_T0 hC.2.1
      have kT0 := kT.1
      have kT1 := kT.2.1
      refine g_aload0 X dX6_worker_24 ?_
      refine gf_6_history X i6 (by decide +kernel) dX6_worker_25 ?_
      refine g_aload0 X dX6_worker_28 ?_
      refine gf_6_table X i6 (by decide +kernel) dX6_worker_29 ?_
      refine g_W1 X (k_X0_keep E hC.2.1) gX6_worker_X0_keep rfl (by decide +kernel) (by decide) ob_1 (Nat.le_of_ble_eq_true rfl) dX6_worker_32 ?_
      refine g_rg (fun hR32 => ?_)
      refine g_aload0 X dX6_worker_35 ?_
      refine gf_6_table X i6 (by decide +kernel) dX6_worker_36 ?_
      refine g_iload1 X dX6_worker_39 ?_
      refine g_W1 X (k_X4_addWorker E (by omega) (by omega) (by omega) (by omega)) gX6_worker_X4_addWorker rfl (by decide +kernel) (by decide) (ob_TB (by omega)) (Nat.le_of_ble_eq_true rfl) dX6_worker_40 ?_
      refine g_rg (fun hR40 => ?_)
      have ez : adW (kp σ) 0 x1 (kp σ (TB 0) 1) 1 (TB 0) 0 = σ (TB 0) 0 + 1 := by unfold adW; rw [if_pos ⟨rfl, rfl⟩, kT0]
      refine g_aload0 X dX6_worker_43 ?_
      refine gf_6_table X i6 (by decide +kernel) dX6_worker_44 ?_
      refine gf_4_workers X (by omega) i4 (by decide +kernel) dX6_worker_47 ?_
      refine g_iconst X dX6_worker_50 ?_
      refine g_isub X dX6_worker_51 ?_
      exact g_iretF X hr (by first | exact hR40 _ _ | exact hR32 _ _ | exact hR1 _ _ | exact hR0 _ _ | assumption | (unfold InR; omega)) ⟨(by repeat (first | rw [if_pos (by omega)] | rw [if_neg (by omega)]); all_goals omega), (by repeat (first | rw [if_pos (by omega)] | rw [if_neg (by omega)]); all_goals omega)⟩ dX6_worker_52
    · skip
      refine g_bipush X dX6_worker_21 (by decide +kernel) ?_
      exact g_iretF X hr (by first | exact hR1 _ _ | exact hR0 _ _ | assumption | (unfold InR; omega)) ⟨(by repeat (first | rw [if_pos (by omega)] | rw [if_neg (by omega)]); all_goals omega), (by repeat (first | rw [if_pos (by omega)] | rw [if_neg (by omega)]); all_goals omega)⟩ dX6_worker_23
  · skip
    refine g_iconst X dX6_worker_7 ?_
    exact g_iretF X hr (by first | exact hR1 _ _ | exact hR0 _ _ | assumption | (unfold InR; omega)) ⟨(by repeat (first | rw [if_pos (by omega)] | rw [if_neg (by omega)]); all_goals omega), (by repeat (first | rw [if_pos (by omega)] | rw [if_neg (by omega)]); all_goals omega)⟩ dX6_worker_8

set_option maxHeartbeats 4000000 in
set_option maxRecDepth 100000 in
theorem k_X6_task (E0 : EV) {ad : Int → Nat} {σ : St} (hC : CI σ) : MGE E0 yX6_task wsX6_task 2 44 ad σ [.ref (ad 0)] (PF (if σ (TB 0) 1 < 7 then σ (TB 0) 1 else -3) (if σ (TB 0) 1 < 7 then adT (kp σ) 0 (kp σ (TB 0) 0) 1 else σ)) := by
  refine MGE.of (cc := cX6_task) (maxL := 1) (ret := (some .int)) (own := RX6) [some (.ref (ad 0))] (by decide +kernel) rfl rfl (Nat.le_of_ble_eq_true rfl) rfl rfl (fun E X hr => ?_)
  have i4 : ∀ w ∈ wsX40, w ∈ wsX6_task := by decide +kernel
  have i6 : ∀ w ∈ wsX60, w ∈ wsX6_task := by decide +kernel
  refine g_rg (fun hR0 => ?_)
  have hT0 := hC.1 0 (by omega) (by omega)
  have hT5 := hC.1 5 (by omega) (by omega)
  have hm := hT0.1
  have hn := hT0.2.1
  refine g_aload0 X dX6_task_0 ?_
  refine gf_6_table X i6 (by decide +kernel) dX6_task_1 ?_
  refine gf_4_tasks X (by omega) i4 (by decide +kernel) dX6_task_4 ?_
  refine g_bipush X dX6_task_7 (by decide +kernel) ?_
  refine g_icmp_lt (tgt := 15) X (by first | exact hR0 _ _ | assumption | (unfold InR; omega)) (by first | exact hR0 _ _ | assumption | (unfold InR; omega)) dX6_task_9 (by decide) (fun h9 => ?_) (fun h9 => ?_)
  · skip
    have kT := kp_T0 hC.2.1
    have kT0 := kT.1
    have kT1 := kT.2.1
    refine g_aload0 X dX6_task_15 ?_
    refine gf_6_history X i6 (by decide +kernel) dX6_task_16 ?_
    refine g_aload0 X dX6_task_19 ?_
    refine gf_6_table X i6 (by decide +kernel) dX6_task_20 ?_
    refine g_W1 X (k_X0_keep E hC.2.1) gX6_task_X0_keep rfl (by decide +kernel) (by decide) ob_1 (Nat.le_of_ble_eq_true rfl) dX6_task_23 ?_
    refine g_rg (fun hR23 => ?_)
    refine g_aload0 X dX6_task_26 ?_
    refine gf_6_table X i6 (by decide +kernel) dX6_task_27 ?_
    refine g_W0 X (k_X4_addTask E (by omega) (by omega) (by omega)) gX6_task_X4_addTask rfl (by decide +kernel) (by decide) (ob_TB (by omega)) (Nat.le_of_ble_eq_true rfl) dX6_task_30 ?_
    refine g_rg (fun hR30 => ?_)
    have ez : adT (kp σ) 0 (kp σ (TB 0) 0) 1 (TB 0) 1 = σ (TB 0) 1 + 1 := by unfold adT; rw [if_pos ⟨rfl, rfl⟩, kT1]
    refine g_aload0 X dX6_task_33 ?_
    refine gf_6_table X i6 (by decide +kernel) dX6_task_34 ?_
    refine gf_4_tasks X (by omega) i4 (by decide +kernel) dX6_task_37 ?_
    refine g_iconst X dX6_task_40 ?_
    refine g_isub X dX6_task_41 ?_
    exact g_iretF X hr (by first | exact hR30 _ _ | exact hR23 _ _ | exact hR0 _ _ | assumption | (unfold InR; omega)) ⟨(by repeat (first | rw [if_pos (by omega)] | rw [if_neg (by omega)]); all_goals omega), (by repeat (first | rw [if_pos (by omega)] | rw [if_neg (by omega)]); all_goals omega)⟩ dX6_task_42
  · skip
    refine g_bipush X dX6_task_12 (by decide +kernel) ?_
    exact g_iretF X hr (by first | exact hR0 _ _ | assumption | (unfold InR; omega)) ⟨(by repeat (first | rw [if_pos (by omega)] | rw [if_neg (by omega)]); all_goals omega), (by repeat (first | rw [if_pos (by omega)] | rw [if_neg (by omega)]); all_goals omega)⟩ dX6_task_14

set_option maxHeartbeats 4000000 in
set_option maxRecDepth 100000 in
theorem k_X6_dropWorker (E0 : EV) {ad : Int → Nat} {σ : St} {x1 : Int} (hC : CI σ)(hx1 : InR x1) : MGE E0 yX6_dropWorker wsX6_dropWorker 2 44 ad σ [.ref (ad 0), .int (iI x1)] (PF (if 0 ≤ x1 ∧ x1 < σ (TB 0) 0 then σ (TB 0) 0 - 1 else -1) (if 0 ≤ x1 ∧ x1 < σ (TB 0) 0 then rmW (kp σ) 0 x1 (kp σ (TB 0) 0 - 1) (kp σ (TB 0) 0 - 1) 0 else σ)) := by
  refine MGE.of (cc := cX6_dropWorker) (maxL := 2) (ret := (some .int)) (own := RX6) [some (.ref (ad 0)), some (.int (iI x1))] (by decide +kernel) rfl rfl (Nat.le_of_ble_eq_true rfl) rfl rfl (fun E X hr => ?_)
  have i4 : ∀ w ∈ wsX40, w ∈ wsX6_dropWorker := by decide +kernel
  have i6 : ∀ w ∈ wsX60, w ∈ wsX6_dropWorker := by decide +kernel
  refine g_rg (fun hR0 => ?_)
  have hT0 := hC.1 0 (by omega) (by omega)
  have hT5 := hC.1 5 (by omega) (by omega)
  have hm := hT0.1
  have hn := hT0.2.1
  have hw := iW_01 σ x1
  refine g_aload0 X dX6_dropWorker_0 ?_
  refine g_iload1 X dX6_dropWorker_1 ?_
  refine g_F1 X (k_X6_isWorker E hT0 hx1) gX6_dropWorker_X6_isWorker rfl (by decide +kernel) (by decide) ob_0 (Nat.le_of_ble_eq_true rfl) dX6_dropWorker_2 (fun hz2 => ?_)
  refine g_rg (fun hR2 => ?_)
  refine g_if_ne (tgt := 10) X (by first | exact hR2 _ _ | exact hR0 _ _ | assumption | (unfold InR; omega)) dX6_dropWorker_5 (by decide) (fun h5 => ?_) (fun h5 => ?_)
  · skip
    have kT := kp_T0 hC.2.1
    have kT0 := kT.1
    have kT1 := kT.2.1
    refine g_aload0 X dX6_dropWorker_10 ?_
    refine gf_6_history X i6 (by decide +kernel) dX6_dropWorker_11 ?_
    refine g_aload0 X dX6_dropWorker_14 ?_
    refine gf_6_table X i6 (by decide +kernel) dX6_dropWorker_15 ?_
    refine g_W1 X (k_X0_keep E hC.2.1) gX6_dropWorker_X0_keep rfl (by decide +kernel) (by decide) ob_1 (Nat.le_of_ble_eq_true rfl) dX6_dropWorker_18 ?_
    refine g_rg (fun hR18 => ?_)
    refine g_aload0 X dX6_dropWorker_21 ?_
    refine gf_6_table X i6 (by decide +kernel) dX6_dropWorker_22 ?_
    refine g_iload1 X dX6_dropWorker_25 ?_
    refine g_W1 X (k_X4_removeWorker E (by omega) (by omega) (by omega) (by omega)) gX6_dropWorker_X4_removeWorker rfl (by decide +kernel) (by decide) (ob_TB (by omega)) (Nat.le_of_ble_eq_true rfl) dX6_dropWorker_26 ?_
    refine g_rg (fun hR26 => ?_)
    have ez : rmW (kp σ) 0 x1 (kp σ (TB 0) 0 - 1) (kp σ (TB 0) 0 - 1) 0 (TB 0) 0 = σ (TB 0) 0 - 1 := by unfold rmW; rw [if_pos ⟨rfl, rfl⟩, kT0]
    refine g_aload0 X dX6_dropWorker_29 ?_
    refine gf_6_table X i6 (by decide +kernel) dX6_dropWorker_30 ?_
    refine gf_4_workers X (by omega) i4 (by decide +kernel) dX6_dropWorker_33 ?_
    exact g_iretF X hr (by first | exact hR26 _ _ | exact hR18 _ _ | exact hR2 _ _ | exact hR0 _ _ | assumption | (unfold InR; omega)) ⟨(by repeat (first | rw [if_pos (by omega)] | rw [if_neg (by omega)]); all_goals omega), (by repeat (first | rw [if_pos (by omega)] | rw [if_neg (by omega)]); all_goals omega)⟩ dX6_dropWorker_36
  · skip
    refine g_iconst X dX6_dropWorker_8 ?_
    exact g_iretF X hr (by first | exact hR2 _ _ | exact hR0 _ _ | assumption | (unfold InR; omega)) ⟨(by repeat (first | rw [if_pos (by omega)] | rw [if_neg (by omega)]); all_goals omega), (by repeat (first | rw [if_pos (by omega)] | rw [if_neg (by omega)]); all_goals omega)⟩ dX6_dropWorker_9

set_option maxHeartbeats 4000000 in
set_option maxRecDepth 100000 in
theorem k_X6_dropTask (E0 : EV) {ad : Int → Nat} {σ : St} {x1 : Int} (hC : CI σ)(hx1 : InR x1) : MGE E0 yX6_dropTask wsX6_dropTask 2 44 ad σ [.ref (ad 0), .int (iI x1)] (PF (if 0 ≤ x1 ∧ x1 < σ (TB 0) 1 then σ (TB 0) 1 - 1 else -1) (if 0 ≤ x1 ∧ x1 < σ (TB 0) 1 then rmT (kp σ) 0 x1 (kp σ (TB 0) 0) x1 else σ)) := by
  refine MGE.of (cc := cX6_dropTask) (maxL := 2) (ret := (some .int)) (own := RX6) [some (.ref (ad 0)), some (.int (iI x1))] (by decide +kernel) rfl rfl (Nat.le_of_ble_eq_true rfl) rfl rfl (fun E X hr => ?_)
  have i4 : ∀ w ∈ wsX40, w ∈ wsX6_dropTask := by decide +kernel
  have i6 : ∀ w ∈ wsX60, w ∈ wsX6_dropTask := by decide +kernel
  refine g_rg (fun hR0 => ?_)
  have hT0 := hC.1 0 (by omega) (by omega)
  have hT5 := hC.1 5 (by omega) (by omega)
  have hm := hT0.1
  have hn := hT0.2.1
  have hw := iK_01 σ x1
  refine g_aload0 X dX6_dropTask_0 ?_
  refine g_iload1 X dX6_dropTask_1 ?_
  refine g_F1 X (k_X6_isTask E hT0 hx1) gX6_dropTask_X6_isTask rfl (by decide +kernel) (by decide) ob_0 (Nat.le_of_ble_eq_true rfl) dX6_dropTask_2 (fun hz2 => ?_)
  refine g_rg (fun hR2 => ?_)
  refine g_if_ne (tgt := 10) X (by first | exact hR2 _ _ | exact hR0 _ _ | assumption | (unfold InR; omega)) dX6_dropTask_5 (by decide) (fun h5 => ?_) (fun h5 => ?_)
  · skip
    have kT := kp_T0 hC.2.1
    have kT0 := kT.1
    have kT1 := kT.2.1
    refine g_aload0 X dX6_dropTask_10 ?_
    refine gf_6_history X i6 (by decide +kernel) dX6_dropTask_11 ?_
    refine g_aload0 X dX6_dropTask_14 ?_
    refine gf_6_table X i6 (by decide +kernel) dX6_dropTask_15 ?_
    refine g_W1 X (k_X0_keep E hC.2.1) gX6_dropTask_X0_keep rfl (by decide +kernel) (by decide) ob_1 (Nat.le_of_ble_eq_true rfl) dX6_dropTask_18 ?_
    refine g_rg (fun hR18 => ?_)
    refine g_aload0 X dX6_dropTask_21 ?_
    refine gf_6_table X i6 (by decide +kernel) dX6_dropTask_22 ?_
    refine g_iload1 X dX6_dropTask_25 ?_
    refine g_W1 X (k_X4_removeTask E (by omega) (by omega) (by omega) (by omega)) gX6_dropTask_X4_removeTask rfl (by decide +kernel) (by decide) (ob_TB (by omega)) (Nat.le_of_ble_eq_true rfl) dX6_dropTask_26 ?_
    refine g_rg (fun hR26 => ?_)
    have ez : rmT (kp σ) 0 x1 (kp σ (TB 0) 0) x1 (TB 0) 1 = σ (TB 0) 1 - 1 := by unfold rmT; rw [if_pos ⟨rfl, rfl⟩, kT1]
    refine g_aload0 X dX6_dropTask_29 ?_
    refine gf_6_table X i6 (by decide +kernel) dX6_dropTask_30 ?_
    refine gf_4_tasks X (by omega) i4 (by decide +kernel) dX6_dropTask_33 ?_
    exact g_iretF X hr (by first | exact hR26 _ _ | exact hR18 _ _ | exact hR2 _ _ | exact hR0 _ _ | assumption | (unfold InR; omega)) ⟨(by repeat (first | rw [if_pos (by omega)] | rw [if_neg (by omega)]); all_goals omega), (by repeat (first | rw [if_pos (by omega)] | rw [if_neg (by omega)]); all_goals omega)⟩ dX6_dropTask_36
  · skip
    refine g_iconst X dX6_dropTask_8 ?_
    exact g_iretF X hr (by first | exact hR2 _ _ | exact hR0 _ _ | assumption | (unfold InR; omega)) ⟨(by repeat (first | rw [if_pos (by omega)] | rw [if_neg (by omega)]); all_goals omega), (by repeat (first | rw [if_pos (by omega)] | rw [if_neg (by omega)]); all_goals omega)⟩ dX6_dropTask_9

set_option maxHeartbeats 4000000 in
set_option maxRecDepth 100000 in
theorem k_X6_cost (E0 : EV) {ad : Int → Nat} {σ : St} {x1 x2 x3 : Int} (hC : CI σ)(hx1 : InR x1)(hx2 : InR x2)(hx3 : InR x3) : MGE E0 yX6_cost wsX6_cost 6 138 ad σ [.ref (ad 0), .int (iI x1), .int (iI x2), .int (iI x3)] (PI (fun z σ' => z = (if (0 ≤ x1 ∧ x1 < σ (TB 0) 0) ∧ (0 ≤ x2 ∧ x2 < σ (TB 0) 1) ∧ 0 ≤ x3 ∧ x3 ≤ 9999 then 100000 + (RW (up (kp σ) (TR 0 x1) x2 x3) (AW (up (kp σ) (TR 0 x1) x2 x3)) 0 0 - RW σ (AW σ) 0 0) else -1) ∧ QQ (if (0 ≤ x1 ∧ x1 < σ (TB 0) 0) ∧ (0 ≤ x2 ∧ x2 < σ (TB 0) 1) ∧ 0 ≤ x3 ∧ x3 ≤ 9999 then up (kp σ) (TR 0 x1) x2 x3 else σ) σ')) := by
  refine MGE.of (cc := cX6_cost) (maxL := 4) (ret := (some .int)) (own := RX6) [some (.ref (ad 0)), some (.int (iI x1)), some (.int (iI x2)), some (.int (iI x3))] (by decide +kernel) rfl rfl (Nat.le_of_ble_eq_true rfl) rfl rfl (fun E X hr => ?_)
  refine g_rg (fun hR0 => ?_)
  have hT0 := hC.1 0 (by omega) (by omega)
  have hT5 := hC.1 5 (by omega) (by omega)
  have hm := hT0.1
  have hn := hT0.2.1
  have hw := iW_01 σ x1
  have hk := iK_01 σ x2
  have hc := iC_01 x3
  refine g_aload0 X dX6_cost_0 ?_
  refine g_iload1 X dX6_cost_1 ?_
  refine g_F1 X (k_X6_isWorker E hT0 hx1) gX6_cost_X6_isWorker rfl (by decide +kernel) (by decide) ob_0 (Nat.le_of_ble_eq_true rfl) dX6_cost_2 (fun hz2 => ?_)
  refine g_rg (fun hR2 => ?_)
  refine g_if_eq (tgt := 23) X (by first | exact hR2 _ _ | exact hR0 _ _ | assumption | (unfold InR; omega)) dX6_cost_5 (by decide) (fun h5 => ?_) (fun h5 => ?_)
  · skip
    refine g_iconst X dX6_cost_23 ?_
    exact g_iret X hr (by first | exact hR2 _ _ | exact hR0 _ _ | assumption | (unfold InR; omega)) ⟨(by repeat (first | rw [if_pos (by omega)] | rw [if_neg (by omega)]); all_goals omega), (by first | exact QQ.rf hT5 | (rw [if_neg (by omega)]; exact QQ.rf hT5))⟩ dX6_cost_24
  · skip
    refine g_aload0 X dX6_cost_8 ?_
    refine g_iload2 X dX6_cost_9 ?_
    refine g_F1 X (k_X6_isTask E hT0 hx2) gX6_cost_X6_isTask rfl (by decide +kernel) (by decide) ob_0 (Nat.le_of_ble_eq_true rfl) dX6_cost_10 (fun hz10 => ?_)
    refine g_rg (fun hR10 => ?_)
    refine g_if_eq (tgt := 23) X (by first | exact hR10 _ _ | exact hR2 _ _ | exact hR0 _ _ | assumption | (unfold InR; omega)) dX6_cost_13 (by decide) (fun h13 => ?_) (fun h13 => ?_)
    · skip
      refine g_iconst X dX6_cost_23 ?_
      exact g_iret X hr (by first | exact hR10 _ _ | exact hR2 _ _ | exact hR0 _ _ | assumption | (unfold InR; omega)) ⟨(by repeat (first | rw [if_pos (by omega)] | rw [if_neg (by omega)]); all_goals omega), (by first | exact QQ.rf hT5 | (rw [if_neg (by omega)]; exact QQ.rf hT5))⟩ dX6_cost_24
    · skip
      refine g_iload3 X dX6_cost_16 ?_
      refine g_SF1 X (k_X6_isCost E hx3) gX6_cost_X6_isCost rfl (by decide +kernel) (by decide) (Nat.le_of_ble_eq_true rfl) dX6_cost_17 (fun hz17 => ?_)
      refine g_rg (fun hR17 => ?_)
      refine g_if_ne (tgt := 25) X (by first | exact hR17 _ _ | exact hR10 _ _ | exact hR2 _ _ | exact hR0 _ _ | assumption | (unfold InR; omega)) dX6_cost_20 (by decide) (fun h20 => ?_) (fun h20 => ?_)
      · skip
        refine g_ldc X (z := 100000) (by decide +kernel) rfl dX6_cost_25 ?_
        refine g_aload0 X dX6_cost_27 ?_
        refine g_iload1 X dX6_cost_28 ?_
        refine g_iload2 X dX6_cost_29 ?_
        refine g_iload3 X dX6_cost_30 ?_
        refine g_I3 X (k_X6_changePair E hC (by omega) (by omega) (by omega)) gX6_cost_X6_changePair rfl (by decide +kernel) (by decide) ob_0 (Nat.le_of_ble_eq_true rfl) dX6_cost_31 (fun z31 σ31 hz31 hp31 => ?_)
        refine g_rg (fun hR31 => ?_)
        have hzr := RW_b hT0 (AW σ) 0 0 (by omega)
        have hzi := hz31
        unfold InR at hzi
        have hzb : z31 ≤ 70000 := by
          have hTu : TOK (up (kp σ) (TR 0 x1) x2 x3) 0 := by
            have hTk := hC.kept.1 0 (by omega) (by omega)
            refine ⟨by unfold up; rw [if_neg (by unfold TB TR; omega)]; exact hTk.1, by unfold up; rw [if_neg (by unfold TB TR; omega)]; exact hTk.2.1, fun v a b => by unfold up; rw [if_neg (by unfold TI TR; omega)]; exact hTk.2.2.1 v a b, fun v i a b d e => ?_⟩
            unfold up
            by_cases h : TR 0 v = TR 0 x1 ∧ i = x2
            · rw [if_pos h]; omega
            · rw [if_neg h]; exact hTk.2.2.2 v i a b d e
          have hzr2 := RW_b hTu (AW (up (kp σ) (TR 0 x1) x2 x3)) 0 0 (by omega)
          have hzz := hp31.1
          omega
        refine g_iadd X dX6_cost_34 ?_
        exact g_iret X hr (by first | exact hR31 _ _ | exact hR17 _ _ | exact hR10 _ _ | exact hR2 _ _ | exact hR0 _ _ | assumption | (unfold InR; omega)) ⟨by rw [if_pos (by omega), hp31.1], by rw [if_pos (by omega)]; exact hp31.2⟩ dX6_cost_35
      · skip
        refine g_iconst X dX6_cost_23 ?_
        exact g_iret X hr (by first | exact hR17 _ _ | exact hR10 _ _ | exact hR2 _ _ | exact hR0 _ _ | assumption | (unfold InR; omega)) ⟨(by repeat (first | rw [if_pos (by omega)] | rw [if_neg (by omega)]); all_goals omega), (by first | exact QQ.rf hT5 | (rw [if_neg (by omega)]; exact QQ.rf hT5))⟩ dX6_cost_24

set_option maxHeartbeats 4000000 in
set_option maxRecDepth 100000 in
theorem k_X6_bar (E0 : EV) {ad : Int → Nat} {σ : St} {x1 x2 : Int} (hC : CI σ)(hx1 : InR x1)(hx2 : InR x2) : MGE E0 yX6_bar wsX6_bar 6 138 ad σ [.ref (ad 0), .int (iI x1), .int (iI x2)] (PI (fun z σ' => z = (if (0 ≤ x1 ∧ x1 < σ (TB 0) 0) ∧ (0 ≤ x2 ∧ x2 < σ (TB 0) 1) then (if isB σ 0 x1 x2 = 1 then -2 else RW (up (kp σ) (TR 0 x1) x2 (-1)) (AW (up (kp σ) (TR 0 x1) x2 (-1))) 0 0 - RW σ (AW σ) 0 0) else -1) ∧ QQ (if (0 ≤ x1 ∧ x1 < σ (TB 0) 0) ∧ (0 ≤ x2 ∧ x2 < σ (TB 0) 1) ∧ isB σ 0 x1 x2 ≠ 1 then up (kp σ) (TR 0 x1) x2 (-1) else σ) σ')) := by
  refine MGE.of (cc := cX6_bar) (maxL := 3) (ret := (some .int)) (own := RX6) [some (.ref (ad 0)), some (.int (iI x1)), some (.int (iI x2))] (by decide +kernel) rfl rfl (Nat.le_of_ble_eq_true rfl) rfl rfl (fun E X hr => ?_)
  have i6 : ∀ w ∈ wsX60, w ∈ wsX6_bar := by decide +kernel
  refine g_rg (fun hR0 => ?_)
  have hT0 := hC.1 0 (by omega) (by omega)
  have hT5 := hC.1 5 (by omega) (by omega)
  have hm := hT0.1
  have hn := hT0.2.1
  have hw := iW_01 σ x1
  have hk := iK_01 σ x2
  have hb := isB_01 σ 0 x1 x2
  refine g_aload0 X dX6_bar_0 ?_
  refine g_iload1 X dX6_bar_1 ?_
  refine g_F1 X (k_X6_isWorker E hT0 hx1) gX6_bar_X6_isWorker rfl (by decide +kernel) (by decide) ob_0 (Nat.le_of_ble_eq_true rfl) dX6_bar_2 (fun hz2 => ?_)
  refine g_rg (fun hR2 => ?_)
  refine g_if_eq (tgt := 16) X (by first | exact hR2 _ _ | exact hR0 _ _ | assumption | (unfold InR; omega)) dX6_bar_5 (by decide) (fun h5 => ?_) (fun h5 => ?_)
  · skip
    refine g_iconst X dX6_bar_16 ?_
    exact g_iret X hr (by first | exact hR2 _ _ | exact hR0 _ _ | assumption | (unfold InR; omega)) ⟨(by repeat (first | rw [if_pos (by omega)] | rw [if_neg (by omega)]); all_goals omega), (by first | exact QQ.rf hT5 | (rw [if_neg (by omega)]; exact QQ.rf hT5))⟩ dX6_bar_17
  · skip
    refine g_aload0 X dX6_bar_8 ?_
    refine g_iload2 X dX6_bar_9 ?_
    refine g_F1 X (k_X6_isTask E hT0 hx2) gX6_bar_X6_isTask rfl (by decide +kernel) (by decide) ob_0 (Nat.le_of_ble_eq_true rfl) dX6_bar_10 (fun hz10 => ?_)
    refine g_rg (fun hR10 => ?_)
    refine g_if_ne (tgt := 18) X (by first | exact hR10 _ _ | exact hR2 _ _ | exact hR0 _ _ | assumption | (unfold InR; omega)) dX6_bar_13 (by decide) (fun h13 => ?_) (fun h13 => ?_)
    · skip
      refine g_aload0 X dX6_bar_18 ?_
      refine gf_6_table X i6 (by decide +kernel) dX6_bar_19 ?_
      refine g_iload1 X dX6_bar_22 ?_
      refine g_iload2 X dX6_bar_23 ?_
      refine g_F2 X (k_X4_isBarred E (by omega) (by omega) (by omega)) gX6_bar_X4_isBarred rfl (by decide +kernel) (by decide) (ob_TB (by omega)) (Nat.le_of_ble_eq_true rfl) dX6_bar_24 (fun hz24 => ?_)
      refine g_rg (fun hR24 => ?_)
      refine g_if_eq (tgt := 33) X (by first | exact hR24 _ _ | exact hR10 _ _ | exact hR2 _ _ | exact hR0 _ _ | assumption | (unfold InR; omega)) dX6_bar_27 (by decide) (fun h27 => ?_) (fun h27 => ?_)
      · skip
        refine g_aload0 X dX6_bar_33 ?_
        refine g_iload1 X dX6_bar_34 ?_
        refine g_iload2 X dX6_bar_35 ?_
        refine g_iconst X dX6_bar_36 ?_
        refine g_I3 X (k_X6_changePair E hC (by omega) (by omega) (by omega)) gX6_bar_X6_changePair rfl (by decide +kernel) (by decide) ob_0 (Nat.le_of_ble_eq_true rfl) dX6_bar_37 (fun z37 σ37 hz37 hp37 => ?_)
        refine g_rg (fun hR37 => ?_)
        exact g_iret X hr (by first | exact hR37 _ _ | exact hR24 _ _ | exact hR10 _ _ | exact hR2 _ _ | exact hR0 _ _ | assumption | (unfold InR; omega)) ⟨by rw [if_pos (by omega), if_neg (by omega), hp37.1], by rw [if_pos (by omega)]; exact hp37.2⟩ dX6_bar_40
      · skip
        refine g_bipush X dX6_bar_30 (by decide +kernel) ?_
        exact g_iret X hr (by first | exact hR24 _ _ | exact hR10 _ _ | exact hR2 _ _ | exact hR0 _ _ | assumption | (unfold InR; omega)) ⟨(by repeat (first | rw [if_pos (by omega)] | rw [if_neg (by omega)]); all_goals omega), (by first | exact QQ.rf hT5 | (rw [if_neg (by omega)]; exact QQ.rf hT5))⟩ dX6_bar_32
    · skip
      refine g_iconst X dX6_bar_16 ?_
      exact g_iret X hr (by first | exact hR10 _ _ | exact hR2 _ _ | exact hR0 _ _ | assumption | (unfold InR; omega)) ⟨(by repeat (first | rw [if_pos (by omega)] | rw [if_neg (by omega)]); all_goals omega), (by first | exact QQ.rf hT5 | (rw [if_neg (by omega)]; exact QQ.rf hT5))⟩ dX6_bar_17

set_option maxHeartbeats 4000000 in
set_option maxRecDepth 100000 in
theorem k_X6_idle (E0 : EV) {ad : Int → Nat} {σ : St} {x1 x2 : Int} (hC : CI σ)(hx1 : InR x1)(hx2 : InR x2) : MGE E0 yX6_idle wsX6_idle 2 44 ad σ [.ref (ad 0), .int (iI x1), .int (iI x2)] (PF (if (0 ≤ x1 ∧ x1 < σ (TB 0) 0) ∧ 0 ≤ x2 ∧ x2 ≤ 9999 then σ (TI 0) x1 else -1) (if (0 ≤ x1 ∧ x1 < σ (TB 0) 0) ∧ 0 ≤ x2 ∧ x2 ≤ 9999 then up (kp σ) (TI 0) x1 x2 else σ)) := by
  refine MGE.of (cc := cX6_idle) (maxL := 4) (ret := (some .int)) (own := RX6) [some (.ref (ad 0)), some (.int (iI x1)), some (.int (iI x2)), none] (by decide +kernel) rfl rfl (Nat.le_of_ble_eq_true rfl) rfl rfl (fun E X hr => ?_)
  have i4 : ∀ w ∈ wsX40, w ∈ wsX6_idle := by decide +kernel
  have i6 : ∀ w ∈ wsX60, w ∈ wsX6_idle := by decide +kernel
  refine g_rg (fun hR0 => ?_)
  have hT0 := hC.1 0 (by omega) (by omega)
  have hT5 := hC.1 5 (by omega) (by omega)
  have hm := hT0.1
  have hn := hT0.2.1
  have hw := iW_01 σ x1
  have hc := iC_01 x2
  refine g_aload0 X dX6_idle_0 ?_
  refine g_iload1 X dX6_idle_1 ?_
  refine g_F1 X (k_X6_isWorker E hT0 hx1) gX6_idle_X6_isWorker rfl (by decide +kernel) (by decide) ob_0 (Nat.le_of_ble_eq_true rfl) dX6_idle_2 (fun hz2 => ?_)
  refine g_rg (fun hR2 => ?_)
  refine g_if_eq (tgt := 15) X (by first | exact hR2 _ _ | exact hR0 _ _ | assumption | (unfold InR; omega)) dX6_idle_5 (by decide) (fun h5 => ?_) (fun h5 => ?_)
  · skip
    refine g_iconst X dX6_idle_15 ?_
    exact g_iretF X hr (by first | exact hR2 _ _ | exact hR0 _ _ | assumption | (unfold InR; omega)) ⟨(by repeat (first | rw [if_pos (by omega)] | rw [if_neg (by omega)]); all_goals omega), (by repeat (first | rw [if_pos (by omega)] | rw [if_neg (by omega)]); all_goals omega)⟩ dX6_idle_16
  · skip
    refine g_iload2 X dX6_idle_8 ?_
    refine g_SF1 X (k_X6_isCost E hx2) gX6_idle_X6_isCost rfl (by decide +kernel) (by decide) (Nat.le_of_ble_eq_true rfl) dX6_idle_9 (fun hz9 => ?_)
    refine g_rg (fun hR9 => ?_)
    refine g_if_ne (tgt := 17) X (by first | exact hR9 _ _ | exact hR2 _ _ | exact hR0 _ _ | assumption | (unfold InR; omega)) dX6_idle_12 (by decide) (fun h12 => ?_) (fun h12 => ?_)
    · skip
      have kT := kp_T0 hC.2.1
      have kT0 := kT.1
      have kT1 := kT.2.1
      have kT2 := kT.2.2.1 x1
      refine g_aload0 X dX6_idle_17 ?_
      refine gf_6_history X i6 (by decide +kernel) dX6_idle_18 ?_
      refine g_aload0 X dX6_idle_21 ?_
      refine gf_6_table X i6 (by decide +kernel) dX6_idle_22 ?_
      refine g_W1 X (k_X0_keep E hC.2.1) gX6_idle_X0_keep rfl (by decide +kernel) (by decide) ob_1 (Nat.le_of_ble_eq_true rfl) dX6_idle_25 ?_
      refine g_rg (fun hR25 => ?_)
      refine g_aload0 X dX6_idle_28 ?_
      refine gf_6_table X i6 (by decide +kernel) dX6_idle_29 ?_
      refine gf_4_idleCosts X (by omega) i4 (by decide +kernel) dX6_idle_32 ?_
      refine g_iload1 X dX6_idle_35 ?_
      refine g_iald X (ia_TI (by omega) (by omega)) dX6_idle_36 ?_
      rw [kT2]
      refine g_istore3 X dX6_idle_37 (by decide) (by first | exact Or.inl rfl | exact Or.inr ⟨_, rfl, rfl⟩) ?_
      refine g_aload0 X dX6_idle_38 ?_
      refine gf_6_table X i6 (by decide +kernel) dX6_idle_39 ?_
      refine gf_4_idleCosts X (by omega) i4 (by decide +kernel) dX6_idle_42 ?_
      refine g_iload1 X dX6_idle_45 ?_
      refine g_iload2 X dX6_idle_46 ?_
      refine g_iast X (ia_TI (by omega) (by omega)) (by first | exact hR25 _ _ | exact hR9 _ _ | exact hR2 _ _ | exact hR0 _ _ | assumption | (unfold InR; omega)) dX6_idle_47 ?_
      refine g_rg (fun hR47 => ?_)
      refine g_iload3 X dX6_idle_48 ?_
      exact g_iretF X hr (by first | exact hR47 _ _ | exact hR25 _ _ | exact hR9 _ _ | exact hR2 _ _ | exact hR0 _ _ | assumption | (unfold InR; omega)) ⟨(by repeat (first | rw [if_pos (by omega)] | rw [if_neg (by omega)]); all_goals omega), (by repeat (first | rw [if_pos (by omega)] | rw [if_neg (by omega)]); all_goals omega)⟩ dX6_idle_49
    · skip
      refine g_iconst X dX6_idle_15 ?_
      exact g_iretF X hr (by first | exact hR9 _ _ | exact hR2 _ _ | exact hR0 _ _ | assumption | (unfold InR; omega)) ⟨(by repeat (first | rw [if_pos (by omega)] | rw [if_neg (by omega)]); all_goals omega), (by repeat (first | rw [if_pos (by omega)] | rw [if_neg (by omega)]); all_goals omega)⟩ dX6_idle_16

set_option maxHeartbeats 4000000 in
set_option maxRecDepth 100000 in
theorem k_X6_times (E0 : EV) {ad : Int → Nat} {σ : St} {x1 x2 : Int} (hC : CI σ)(hx1 : InR x1)(hx2 : InR x2) : MGE E0 yX6_times wsX6_times 2 45 ad σ [.ref (ad 0), .int (iI x1), .int (iI x2)] (PF (if (0 ≤ x1 ∧ x1 < σ (TB 0) 0) ∧ 0 ≤ x2 ∧ x2 ≤ 2000000000 then (if gC σ 0 x1 (σ (TB 0) 1) * x2 ≤ 9999 then gC σ 0 x1 (σ (TB 0) 1) * x2 else -3) else -1) (if ((0 ≤ x1 ∧ x1 < σ (TB 0) 0) ∧ 0 ≤ x2 ∧ x2 ≤ 2000000000) ∧ gC σ 0 x1 (σ (TB 0) 1) * x2 ≤ 9999 then muC (kp σ) 0 x1 x2 (kp σ (TB 0) 1) else σ)) := by
  refine MGE.of (cc := cX6_times) (maxL := 5) (ret := (some .int)) (own := RX6) [some (.ref (ad 0)), some (.int (iI x1)), some (.int (iI x2)), none, none] (by decide +kernel) rfl rfl (Nat.le_of_ble_eq_true rfl) rfl rfl (fun E X hr => ?_)
  have i6 : ∀ w ∈ wsX60, w ∈ wsX6_times := by decide +kernel
  refine g_rg (fun hR0 => ?_)
  have hT0 := hC.1 0 (by omega) (by omega)
  have hT5 := hC.1 5 (by omega) (by omega)
  have hm := hT0.1
  have hn := hT0.2.1
  have hw := iW_01 σ x1
  refine g_aload0 X dX6_times_0 ?_
  refine g_iload1 X dX6_times_1 ?_
  refine g_F1 X (k_X6_isWorker E hT0 hx1) gX6_times_X6_isWorker rfl (by decide +kernel) (by decide) ob_0 (Nat.le_of_ble_eq_true rfl) dX6_times_2 (fun hz2 => ?_)
  refine g_rg (fun hR2 => ?_)
  refine g_if_eq (tgt := 18) X (by first | exact hR2 _ _ | exact hR0 _ _ | assumption | (unfold InR; omega)) dX6_times_5 (by decide) (fun h5 => ?_) (fun h5 => ?_)
  · skip
    refine g_iconst X dX6_times_18 ?_
    exact g_iretF X hr (by first | exact hR2 _ _ | exact hR0 _ _ | assumption | (unfold InR; omega)) ⟨(by repeat (first | rw [if_pos (by omega)] | rw [if_neg (by omega)]); all_goals omega), (by repeat (first | rw [if_pos (by omega)] | rw [if_neg (by omega)]); all_goals omega)⟩ dX6_times_19
  · skip
    refine g_iload2 X dX6_times_8 ?_
    refine g_if_lt (tgt := 18) X (by first | exact hR2 _ _ | exact hR0 _ _ | assumption | (unfold InR; omega)) dX6_times_9 (by decide) (fun h9 => ?_) (fun h9 => ?_)
    · skip
      refine g_iconst X dX6_times_18 ?_
      exact g_iretF X hr (by first | exact hR2 _ _ | exact hR0 _ _ | assumption | (unfold InR; omega)) ⟨(by repeat (first | rw [if_pos (by omega)] | rw [if_neg (by omega)]); all_goals omega), (by repeat (first | rw [if_pos (by omega)] | rw [if_neg (by omega)]); all_goals omega)⟩ dX6_times_19
    · skip
      refine g_iload2 X dX6_times_12 ?_
      refine g_ldc X (z := 2000000000) (by decide +kernel) rfl dX6_times_13 ?_
      refine g_icmp_le (tgt := 20) X (by first | exact hR2 _ _ | exact hR0 _ _ | assumption | (unfold InR; omega)) (by first | exact hR2 _ _ | exact hR0 _ _ | assumption | (unfold InR; omega)) dX6_times_15 (by decide) (fun h15 => ?_) (fun h15 => ?_)
      · skip
        have hg := gC_u hT0 (w := x1) (by omega)
        have hp0 : 0 ≤ gC σ 0 x1 (σ (TB 0) 1) * x2 := Int.mul_nonneg hg.1.1 (by omega)
        have hp1 : gC σ 0 x1 (σ (TB 0) 1) * x2 ≤ 9999 * 2000000000 := Int.le_trans (Int.mul_le_mul_of_nonneg_right hg.1.2 (by omega)) (Int.mul_le_mul_of_nonneg_left (by omega) (by omega))
        have hInL : InL (gC σ 0 x1 (σ (TB 0) 1) * x2) := ⟨by omega, by omega⟩
        refine g_aload0 X dX6_times_20 ?_
        refine gf_6_table X i6 (by decide +kernel) dX6_times_21 ?_
        refine g_iload1 X dX6_times_24 ?_
        refine g_F1 X (k_X4_greatestCost E (by omega) (by omega) (by omega)) gX6_times_X4_greatestCost rfl (by decide +kernel) (by decide) (ob_TB (by omega)) (Nat.le_of_ble_eq_true rfl) dX6_times_25 (fun hz25 => ?_)
        refine g_rg (fun hR25 => ?_)
        refine g_i2l X dX6_times_28 ?_
        refine g_iload2 X dX6_times_29 ?_
        refine g_i2l X dX6_times_30 ?_
        refine g_lmul X dX6_times_31 ?_
        rw [iI_l (by unfold InR; omega), iI_l hx2, lL_mul]
        refine g_lstore3 X dX6_times_32 (by decide) (by first | exact Or.inl rfl | exact Or.inr ⟨_, rfl, rfl⟩) ?_
        refine g_lload3 X dX6_times_33 ?_
        refine g_ldc2 X (v := 9999) (by decide +kernel) dX6_times_34 ?_
        rw [show (9999 : Int64) = lL 9999 from rfl]
        refine g_lcmp X dX6_times_37 ?_
        rw [lL_cmp (b := 9999) hInL ⟨by omega, by omega⟩]
        have hc3 : (c3 (gC σ 0 x1 (σ (TB 0) 1) * x2) 9999 = -1 ∧ gC σ 0 x1 (σ (TB 0) 1) * x2 < 9999) ∨ (c3 (gC σ 0 x1 (σ (TB 0) 1) * x2) 9999 = 0 ∧ gC σ 0 x1 (σ (TB 0) 1) * x2 = 9999) ∨ (c3 (gC σ 0 x1 (σ (TB 0) 1) * x2) 9999 = 1 ∧ 9999 < gC σ 0 x1 (σ (TB 0) 1) * x2) := by
          unfold c3
          by_cases h1 : gC σ 0 x1 (σ (TB 0) 1) * x2 < 9999
          · rw [if_pos h1]; omega
          · rw [if_neg h1]
            by_cases h2 : gC σ 0 x1 (σ (TB 0) 1) * x2 = 9999
            · rw [if_pos h2]; omega
            · rw [if_neg h2]; omega
        refine g_if_le (tgt := 44) X (by first | exact hR25 _ _ | exact hR2 _ _ | exact hR0 _ _ | assumption | (unfold InR; omega)) dX6_times_38 (by decide) (fun h38 => ?_) (fun h38 => ?_)
        · skip
          have kT := kp_T0 hC.2.1
          have kT0 := kT.1
          have kT1 := kT.2.1
          have hd1 := hT0.2.2.1 x1 (by omega) (by omega)
          have hi9 : 0 ≤ kp σ (TI 0) x1 * x2 ∧ kp σ (TI 0) x1 * x2 ≤ 9999 := by
            rw [kT.2.2.1]
            exact mul_b hd1.1 hg.2.1 (by omega) (by omega)
          have hc9 : ∀ j, 0 ≤ j → j < kp σ (TB 0) 1 → kp σ (TR 0 x1) j ≠ -1 → 0 ≤ kp σ (TR 0 x1) j * x2 ∧ kp σ (TR 0 x1) j * x2 ≤ 9999 := fun j a b c => by
            rw [kT.2.2.2 x1 j (by omega) (by omega)] at c ⊢
            have hcc := hT0.2.2.2 x1 j (by omega) (by omega) a (by omega)
            exact mul_b (by omega) (hg.2.2 j a (by omega)) (by omega) (by omega)
          refine g_aload0 X dX6_times_44 ?_
          refine gf_6_history X i6 (by decide +kernel) dX6_times_45 ?_
          refine g_aload0 X dX6_times_48 ?_
          refine gf_6_table X i6 (by decide +kernel) dX6_times_49 ?_
          refine g_W1 X (k_X0_keep E hC.2.1) gX6_times_X0_keep rfl (by decide +kernel) (by decide) ob_1 (Nat.le_of_ble_eq_true rfl) dX6_times_52 ?_
          refine g_rg (fun hR52 => ?_)
          refine g_aload0 X dX6_times_55 ?_
          refine gf_6_table X i6 (by decide +kernel) dX6_times_56 ?_
          refine g_iload1 X dX6_times_59 ?_
          refine g_iload2 X dX6_times_60 ?_
          refine g_W2 X (k_X4_multiplyCosts E (by omega) (by omega) (by omega) hi9 hc9) gX6_times_X4_multiplyCosts rfl (by decide +kernel) (by decide) (ob_TB (by omega)) (Nat.le_of_ble_eq_true rfl) dX6_times_61 ?_
          refine g_rg (fun hR61 => ?_)
          refine g_lload3 X dX6_times_64 ?_
          refine g_l2i X dX6_times_65 ?_
          rw [lL_i (by unfold InR; omega)]
          exact g_iretF X hr (by first | exact hR61 _ _ | exact hR52 _ _ | exact hR25 _ _ | exact hR2 _ _ | exact hR0 _ _ | assumption | (unfold InR; omega)) ⟨(by repeat (first | rw [if_pos (by omega)] | rw [if_neg (by omega)]); all_goals omega), (by repeat (first | rw [if_pos (by omega)] | rw [if_neg (by omega)]); all_goals omega)⟩ dX6_times_66
        · skip
          refine g_bipush X dX6_times_41 (by decide +kernel) ?_
          exact g_iretF X hr (by first | exact hR25 _ _ | exact hR2 _ _ | exact hR0 _ _ | assumption | (unfold InR; omega)) ⟨(by repeat (first | rw [if_pos (by omega)] | rw [if_neg (by omega)]); all_goals omega), (by repeat (first | rw [if_pos (by omega)] | rw [if_neg (by omega)]); all_goals omega)⟩ dX6_times_43
      · skip
        refine g_iconst X dX6_times_18 ?_
        exact g_iretF X hr (by first | exact hR2 _ _ | exact hR0 _ _ | assumption | (unfold InR; omega)) ⟨(by repeat (first | rw [if_pos (by omega)] | rw [if_neg (by omega)]); all_goals omega), (by repeat (first | rw [if_pos (by omega)] | rw [if_neg (by omega)]); all_goals omega)⟩ dX6_times_19

set_option maxHeartbeats 4000000 in
set_option maxRecDepth 100000 in
theorem k_X6_costOf (E0 : EV) {ad : Int → Nat} {σ : St} {x1 x2 : Int} (hC : CI σ)(hx1 : InR x1)(hx2 : InR x2) : MGE E0 yX6_costOf wsX6_costOf 2 42 ad σ [.ref (ad 0), .int (iI x1), .int (iI x2)] (PF (if (0 ≤ x1 ∧ x1 < σ (TB 0) 0) ∧ (x2 = -1 ∨ (0 ≤ x2 ∧ x2 < σ (TB 0) 1)) then (if isB σ 0 x1 x2 = 1 then -4 else cW σ 0 x1 x2) else -1) σ) := by
  refine MGE.of (cc := cX6_costOf) (maxL := 3) (ret := (some .int)) (own := RX6) [some (.ref (ad 0)), some (.int (iI x1)), some (.int (iI x2))] (by decide +kernel) rfl rfl (Nat.le_of_ble_eq_true rfl) rfl rfl (fun E X hr => ?_)
  have i6 : ∀ w ∈ wsX60, w ∈ wsX6_costOf := by decide +kernel
  refine g_rg (fun hR0 => ?_)
  have hT0 := hC.1 0 (by omega) (by omega)
  have hT5 := hC.1 5 (by omega) (by omega)
  have hm := hT0.1
  have hn := hT0.2.1
  have hw := iW_01 σ x1
  have hk := iN_01 σ x2
  have hb := isB_01 σ 0 x1 x2
  refine g_aload0 X dX6_costOf_0 ?_
  refine g_iload1 X dX6_costOf_1 ?_
  refine g_F1 X (k_X6_isWorker E hT0 hx1) gX6_costOf_X6_isWorker rfl (by decide +kernel) (by decide) ob_0 (Nat.le_of_ble_eq_true rfl) dX6_costOf_2 (fun hz2 => ?_)
  refine g_rg (fun hR2 => ?_)
  refine g_if_eq (tgt := 16) X (by first | exact hR2 _ _ | exact hR0 _ _ | assumption | (unfold InR; omega)) dX6_costOf_5 (by decide) (fun h5 => ?_) (fun h5 => ?_)
  · skip
    refine g_iconst X dX6_costOf_16 ?_
    exact g_iretF X hr (by first | exact hR2 _ _ | exact hR0 _ _ | assumption | (unfold InR; omega)) ⟨(by repeat (first | rw [if_pos (by omega)] | rw [if_neg (by omega)]); all_goals omega), rfl⟩ dX6_costOf_17
  · skip
    refine g_aload0 X dX6_costOf_8 ?_
    refine g_iload2 X dX6_costOf_9 ?_
    refine g_F1 X (k_X6_isTaskOrNone E hT0 hx2) gX6_costOf_X6_isTaskOrNone rfl (by decide +kernel) (by decide) ob_0 (Nat.le_of_ble_eq_true rfl) dX6_costOf_10 (fun hz10 => ?_)
    refine g_rg (fun hR10 => ?_)
    refine g_if_ne (tgt := 18) X (by first | exact hR10 _ _ | exact hR2 _ _ | exact hR0 _ _ | assumption | (unfold InR; omega)) dX6_costOf_13 (by decide) (fun h13 => ?_) (fun h13 => ?_)
    · skip
      refine g_aload0 X dX6_costOf_18 ?_
      refine gf_6_table X i6 (by decide +kernel) dX6_costOf_19 ?_
      refine g_iload1 X dX6_costOf_22 ?_
      refine g_iload2 X dX6_costOf_23 ?_
      refine g_F2 X (k_X4_isBarred E (by omega) (by omega) (by omega)) gX6_costOf_X4_isBarred rfl (by decide +kernel) (by decide) (ob_TB (by omega)) (Nat.le_of_ble_eq_true rfl) dX6_costOf_24 (fun hz24 => ?_)
      refine g_rg (fun hR24 => ?_)
      refine g_if_eq (tgt := 33) X (by first | exact hR24 _ _ | exact hR10 _ _ | exact hR2 _ _ | exact hR0 _ _ | assumption | (unfold InR; omega)) dX6_costOf_27 (by decide) (fun h27 => ?_) (fun h27 => ?_)
      · skip
        refine g_aload0 X dX6_costOf_33 ?_
        refine gf_6_table X i6 (by decide +kernel) dX6_costOf_34 ?_
        refine g_iload1 X dX6_costOf_37 ?_
        refine g_iload2 X dX6_costOf_38 ?_
        refine g_F2 X (k_X4_costWith E (by omega) (by omega) (by omega)) gX6_costOf_X4_costWith rfl (by decide +kernel) (by decide) (ob_TB (by omega)) (Nat.le_of_ble_eq_true rfl) dX6_costOf_39 (fun hz39 => ?_)
        refine g_rg (fun hR39 => ?_)
        exact g_iretF X hr (by first | exact hR39 _ _ | exact hR24 _ _ | exact hR10 _ _ | exact hR2 _ _ | exact hR0 _ _ | assumption | (unfold InR; omega)) ⟨(by repeat (first | rw [if_pos (by omega)] | rw [if_neg (by omega)]); all_goals omega), rfl⟩ dX6_costOf_42
      · skip
        refine g_bipush X dX6_costOf_30 (by decide +kernel) ?_
        exact g_iretF X hr (by first | exact hR24 _ _ | exact hR10 _ _ | exact hR2 _ _ | exact hR0 _ _ | assumption | (unfold InR; omega)) ⟨(by repeat (first | rw [if_pos (by omega)] | rw [if_neg (by omega)]); all_goals omega), rfl⟩ dX6_costOf_32
    · skip
      refine g_iconst X dX6_costOf_16 ?_
      exact g_iretF X hr (by first | exact hR10 _ _ | exact hR2 _ _ | exact hR0 _ _ | assumption | (unfold InR; omega)) ⟨(by repeat (first | rw [if_pos (by omega)] | rw [if_neg (by omega)]); all_goals omega), rfl⟩ dX6_costOf_17

set_option maxHeartbeats 4000000 in
set_option maxRecDepth 100000 in
theorem k_X6_type (E0 : EV) {ad : Int → Nat} {σ : St} {x1 : Int} (hC : CI σ)(hx1 : InR x1) : MGE E0 yX6_type wsX6_type 1 21 ad σ [.ref (ad 0), .int (iI x1)] (PF (if 32 ≤ x1 ∧ x1 ≤ 126 then (if σ 8 0 < 80 then σ 8 0 + 1 else -3) else -1) (if (32 ≤ x1 ∧ x1 ≤ 126) ∧ σ 8 0 < 80 then apT σ x1 else σ)) := by
  refine MGE.of (cc := cX6_type) (maxL := 2) (ret := (some .int)) (own := RX6) [some (.ref (ad 0)), some (.int (iI x1))] (by decide +kernel) rfl rfl (Nat.le_of_ble_eq_true rfl) rfl rfl (fun E X hr => ?_)
  have i5 : ∀ w ∈ wsX50, w ∈ wsX6_type := by decide +kernel
  have i6 : ∀ w ∈ wsX60, w ∈ wsX6_type := by decide +kernel
  refine g_rg (fun hR0 => ?_)
  have hT0 := hC.1 0 (by omega) (by omega)
  have hT5 := hC.1 5 (by omega) (by omega)
  have hm := hT0.1
  have hn := hT0.2.1
  have hl := hC.2.2.1
  refine g_iload1 X dX6_type_0 ?_
  refine g_bipush X dX6_type_1 (by decide +kernel) ?_
  refine g_icmp_lt (tgt := 12) X (by first | exact hR0 _ _ | assumption | (unfold InR; omega)) (by first | exact hR0 _ _ | assumption | (unfold InR; omega)) dX6_type_3 (by decide) (fun h3 => ?_) (fun h3 => ?_)
  · skip
    refine g_iconst X dX6_type_12 ?_
    exact g_iretF X hr (by first | exact hR0 _ _ | assumption | (unfold InR; omega)) ⟨(by repeat (first | rw [if_pos (by omega)] | rw [if_neg (by omega)]); all_goals omega), (by repeat (first | rw [if_pos (by omega)] | rw [if_neg (by omega)]); all_goals omega)⟩ dX6_type_13
  · skip
    refine g_iload1 X dX6_type_6 ?_
    refine g_bipush X dX6_type_7 (by decide +kernel) ?_
    refine g_icmp_le (tgt := 14) X (by first | exact hR0 _ _ | assumption | (unfold InR; omega)) (by first | exact hR0 _ _ | assumption | (unfold InR; omega)) dX6_type_9 (by decide) (fun h9 => ?_) (fun h9 => ?_)
    · skip
      refine g_aload0 X dX6_type_14 ?_
      refine gf_6_text X i6 (by decide +kernel) dX6_type_15 ?_
      refine gf_5_length X i5 (by decide +kernel) dX6_type_18 ?_
      refine g_bipush X dX6_type_21 (by decide +kernel) ?_
      refine g_icmp_lt (tgt := 29) X (by first | exact hR0 _ _ | assumption | (unfold InR; omega)) (by first | exact hR0 _ _ | assumption | (unfold InR; omega)) dX6_type_23 (by decide) (fun h23 => ?_) (fun h23 => ?_)
      · skip
        refine g_aload0 X dX6_type_29 ?_
        refine gf_6_text X i6 (by decide +kernel) dX6_type_30 ?_
        refine g_iload1 X dX6_type_33 ?_
        refine g_i2c X (by omega) dX6_type_34 ?_
        refine g_W1 X (k_X5_append E (by omega) (by omega)) gX6_type_X5_append rfl (by decide +kernel) (by decide) ob_8 (Nat.le_of_ble_eq_true rfl) dX6_type_35 ?_
        refine g_rg (fun hR35 => ?_)
        have ez : apT σ x1 8 0 = σ 8 0 + 1 := by unfold apT up; rw [if_pos ⟨rfl, rfl⟩]
        refine g_aload0 X dX6_type_38 ?_
        refine gf_6_text X i6 (by decide +kernel) dX6_type_39 ?_
        refine gf_5_length X i5 (by decide +kernel) dX6_type_42 ?_
        exact g_iretF X hr (by first | exact hR35 _ _ | exact hR0 _ _ | assumption | (unfold InR; omega)) ⟨(by repeat (first | rw [if_pos (by omega)] | rw [if_neg (by omega)]); all_goals omega), (by repeat (first | rw [if_pos (by omega)] | rw [if_neg (by omega)]); all_goals omega)⟩ dX6_type_45
      · skip
        refine g_bipush X dX6_type_26 (by decide +kernel) ?_
        exact g_iretF X hr (by first | exact hR0 _ _ | assumption | (unfold InR; omega)) ⟨(by repeat (first | rw [if_pos (by omega)] | rw [if_neg (by omega)]); all_goals omega), (by repeat (first | rw [if_pos (by omega)] | rw [if_neg (by omega)]); all_goals omega)⟩ dX6_type_28
    · skip
      refine g_iconst X dX6_type_12 ?_
      exact g_iretF X hr (by first | exact hR0 _ _ | assumption | (unfold InR; omega)) ⟨(by repeat (first | rw [if_pos (by omega)] | rw [if_neg (by omega)]); all_goals omega), (by repeat (first | rw [if_pos (by omega)] | rw [if_neg (by omega)]); all_goals omega)⟩ dX6_type_13

set_option maxHeartbeats 4000000 in
set_option maxRecDepth 100000 in
theorem k_X6_clearText (E0 : EV) {ad : Int → Nat} {σ : St} (hC : CI σ) : MGE E0 yX6_clearText wsX6_clearText 0 0 ad σ [.ref (ad 0)] (PF (σ 8 0) (up σ 8 0 0)) := by
  refine MGE.of (cc := cX6_clearText) (maxL := 2) (ret := (some .int)) (own := RX6) [some (.ref (ad 0)), none] (by decide +kernel) rfl rfl (Nat.le_of_ble_eq_true rfl) rfl rfl (fun E X hr => ?_)
  have i5 : ∀ w ∈ wsX50, w ∈ wsX6_clearText := by decide +kernel
  have i6 : ∀ w ∈ wsX60, w ∈ wsX6_clearText := by decide +kernel
  refine g_rg (fun hR0 => ?_)
  have hl := hC.2.2.1
  refine g_aload0 X dX6_clearText_0 ?_
  refine gf_6_text X i6 (by decide +kernel) dX6_clearText_1 ?_
  refine gf_5_length X i5 (by decide +kernel) dX6_clearText_4 ?_
  refine g_istore1 X dX6_clearText_7 (by decide) (by first | exact Or.inl rfl | exact Or.inr ⟨_, rfl, rfl⟩) ?_
  refine g_aload0 X dX6_clearText_8 ?_
  refine gf_6_text X i6 (by decide +kernel) dX6_clearText_9 ?_
  refine g_iconst X dX6_clearText_12 ?_
  refine gp_5_length X i5 (by decide +kernel) (by first | exact hR0 _ _ | assumption | (unfold InR; omega)) dX6_clearText_13 ?_
  refine g_rg (fun hR13 => ?_)
  refine g_iload1 X dX6_clearText_16 ?_
  exact g_iretF X hr (by first | exact hR13 _ _ | exact hR0 _ _ | assumption | (unfold InR; omega)) ⟨rfl, rfl⟩ dX6_clearText_17
end
section
/-! MY CONTRACTS: the class's face, its questions -/
def wOf (σ : St) (j : Int) : Int := fsP (fun w => decide (fP σ w = j)) (σ (TB 0) 0) (σ (TB 0) 0).toNat
theorem fP_r {σ : St} (hT : TOK σ 0) (w : Int) : -1 ≤ fP σ w ∧ (fP σ w < σ (TB 0) 1 ∨ fP σ w = -1) := fpk_r hT w _
def wOP (σ : St) (w : Int) : Int := FI (fun a j => if isB σ 0 w j = 1 then a else min a (σ (TR 0 w) j + lpP σ j)) (σ (TI 0) w) (σ (TB 0) 1)
def tgP (σ : St) (w : Int) : Int := FI (fun a j => if isB σ 0 w j ≠ 1 ∧ σ (TR 0 w) j + lpP σ j = wOP σ w then sb a j else a) 0 (σ (TB 0) 1)
def sWP (σ : St) : Int := FI (fun a w => a + wOP σ w) 0 (σ (TB 0) 0)
def sLP (σ : St) : Int := FI (fun a j => a + lpP σ j) 0 (σ (TB 0) 1)
def tPP (σ : St) : Int := FI (fun a w => a + bcN (tgP σ w)) 0 (σ (TB 0) 0)
theorem PLs.at {σ σ' : St} (hT : TOK σ 0) (h : PLs σ σ') : σ' (TB 0) 0 = σ (TB 0) 0 ∧ σ' (TB 0) 1 = σ (TB 0) 1 ∧ (∀ w, σ' (TI 0) w = σ (TI 0) w) ∧ ∀ w k, 0 ≤ w → w < 7 → σ' (TR 0 w) k = σ (TR 0 w) k :=
  ⟨h.1 _ _ (by unfold TB; omega) (by unfold TB; omega), h.1 _ _ (by unfold TB; omega) (by unfold TB; omega), fun w => h.1 _ _ (by unfold TI; omega) (by unfold TI; omega), fun w k a b => h.1 _ _ (by unfold TR; omega) (by unfold TR; omega)⟩
theorem wOP_of {σ σ' : St} (hT : TOK σ 0) (h : PLs σ σ') {w : Int} (hw : 0 ≤ w ∧ w < 7) : wOr σ' w = wOP σ w := by
  obtain ⟨e0, e1, e2, e3⟩ := h.at hT
  unfold wOr wO wOP
  rw [e1, e2]
  refine FI_congrI hT.2.1.1 (fun a j h0 hj => ?_)
  unfold isB
  rw [e3 w j hw.1 hw.2, h.2 j h0 hj]
theorem tgP_of {σ σ' : St} (hT : TOK σ 0) (h : PLs σ σ') {w : Int} (hw : 0 ≤ w ∧ w < 7) : tgT σ' w = tgP σ w := by
  have h5 := wOP_of hT h hw
  obtain ⟨e0, e1, e2, e3⟩ := h.at hT
  unfold tgT tgS tgP
  rw [e1]
  refine FI_congrI hT.2.1.1 (fun a j h0 hj => ?_)
  unfold isB
  rw [e3 w j hw.1 hw.2, h.2 j h0 hj, h5]
theorem sWP_of {σ σ' : St} (hT : TOK σ 0) (h : PLs σ σ') : sW σ' (σ' (TB 0) 0) = sWP σ := by
  obtain ⟨e0, e1, e2, e3⟩ := h.at hT
  have hm := hT.1
  unfold sW sWP
  rw [e0]
  refine FI_congrI hm.1 (fun a w h0 hw => ?_)
  rw [wOP_of hT h (by omega)]
theorem tPP_of {σ σ' : St} (hT : TOK σ 0) (h : PLs σ σ') : tP σ' (σ' (TB 0) 0) = tPP σ := by
  obtain ⟨e0, e1, e2, e3⟩ := h.at hT
  have hm := hT.1
  unfold tP tPP
  rw [e0]
  refine FI_congrI hm.1 (fun a w h0 hw => ?_)
  rw [tgP_of hT h (by omega)]
theorem sLP_of {σ σ' : St} (hT : TOK σ 0) (h : PLs σ σ') : sL σ' (σ' (TB 0) 1) = sLP σ := by
  obtain ⟨e0, e1, e2, e3⟩ := h.at hT
  unfold sL sLP
  rw [e1]
  exact FI_congrI hT.2.1.1 (fun a j h0 hj => by rw [h.2 j h0 hj])
theorem FI_add_b {f : Int → Int} {lo hi : Int} : ∀ n : Nat, (∀ j : Int, 0 ≤ j → j < n → lo ≤ f j ∧ f j ≤ hi) → lo * n ≤ FI (fun a j => a + f j) 0 n ∧ FI (fun a j => a + f j) 0 n ≤ hi * n := by
  intro n
  induction n with
  | zero => intro _; show lo * ((0 : Nat) : Int) ≤ 0 ∧ (0 : Int) ≤ hi * ((0 : Nat) : Int); simp
  | succ n ih =>
    intro hf
    have e : ((n + 1 : Nat) : Int) = (n : Int) + 1 := by omega
    have h1 := ih (fun j a b => hf j a (by omega))
    have h2 := hf n (by omega) (by omega)
    rw [e, FI_s (by omega), Int.mul_add, Int.mul_add]
    omega
theorem sW_b {σ : St} (hT : TOK σ 0) (hPL : PL σ) : -7 ≤ sW σ (σ (TB 0) 0) ∧ sW σ (σ (TB 0) 0) ≤ 70000 := by
  have hm := hT.1
  have h := FI_add_b (f := fun w => wOr σ w) (lo := -1) (hi := 9999) (σ (TB 0) 0).toNat (fun j a b => wOr_b hT hPL (by omega))
  rw [Int.toNat_of_nonneg hm.1] at h
  unfold sW
  omega
theorem sL_b {σ : St} (hT : TOK σ 0) (hPL : PL σ) : 0 ≤ sL σ (σ (TB 0) 1) ∧ sL σ (σ (TB 0) 1) ≤ 560000 := by
  have hn := hT.2.1
  have h := FI_add_b (f := fun j => σ 7 j) (lo := 0) (hi := 80000) (σ (TB 0) 1).toNat (fun j a b => hPL j a (by omega))
  rw [Int.toNat_of_nonneg hn.1] at h
  unfold sL
  omega
def twM (σ : St) (w j : Int) : Int := cW σ 0 w j + RW σ (ub (AW σ) w) 0 (mk j)
theorem tW_of {σ σ' : St} {wk w j : Int} (hT : TOK σ 0) (h : WP σ wk σ') (hw : 0 ≤ w ∧ w < 7) (hj : -1 ≤ j ∧ j < σ (TB 0) 1) : tW σ' w j = cW σ 0 w j + RW σ wk 0 (mk j) := by
  have hmk := mk_b (j := j) (n := σ (TB 0) 1) hj hT.2.1.2 hT.2.1.1
  unfold tW cW
  rw [h.1 (TR 0 w) _ (by unfold TR; omega), h.1 (TI 0) _ (by unfold TI; omega), h.2 0 _ (by omega) hT.1.1 hmk.1 hmk.2]
theorem WP_FR {σ σ1 σ2 : St} {wk : Int} (hT : TOK σ 0) (hF : FR σ σ1) (h : WP σ1 wk σ2) : WP σ wk σ2 := by
  have e0 : σ1 (TB 0) 0 = σ (TB 0) 0 := hF _ _ (by unfold TB; omega)
  have e1 : σ1 (TB 0) 1 = σ (TB 0) 1 := hF _ _ (by unfold TB; omega)
  refine ⟨fun q k a => (h.1 q k a).trans (hF q k a), fun w tk a b c d => ?_⟩
  rw [h.2 w tk a (by rw [e0]; exact b) c (by rw [e1]; exact d), RW_FR hT hF _ _ _ a]
/-- the room of a worker with a task in the first plan -/
def rmP (σ : St) (w : Int) : Int := tOk σ (ub (AW σ) w) w (fP σ w) - RW σ (AW σ) 0 0
theorem CH.tok {σ σ' : St} (hT : TOK σ 0) (h : CH σ σ') : TOK σ' 0 := hT.keep (fun q k a b => by unfold TB at a b; exact h.1 q k (by omega) (by omega) (by omega))
theorem CH.rw {σ σ' : St} (hT : TOK σ 0) (h : CH σ σ') (wk w tk : Int) (hw : 0 ≤ w) : RW σ' wk w tk = RW σ wk w tk := by
  have e0 : σ' (TB 0) 0 = σ (TB 0) 0 := h.1 _ _ (by unfold TB; omega) (by unfold TB; omega) (by unfold TB; omega)
  have e1 : σ' (TB 0) 1 = σ (TB 0) 1 := h.1 _ _ (by unfold TB; omega) (by unfold TB; omega) (by unfold TB; omega)
  have hm := hT.1
  unfold RW LTc
  rw [e0, e1]
  refine LT_congr hT.2.1.1 _ (fun v hv => h.1 _ _ (by unfold TI; omega) (by unfold TI; omega) (by unfold TI; omega)) (fun v hv j _ _ => ?_) tk
  have := wl_in _ v hv
  exact h.1 _ _ (by unfold TR; omega) (by unfold TR; omega) (by unfold TR; omega)
theorem CH.aw {σ σ' : St} (h : CH σ σ') : AW σ' = AW σ := by
  unfold AW
  rw [h.1 (TB 0) 0 (by unfold TB; omega) (by unfold TB; omega) (by unfold TB; omega)]
theorem CH.to {σ σ' : St} (hT : TOK σ 0) (h : CH σ σ') {wk w j : Int} (hw : 0 ≤ w ∧ w < 7) : tOk σ' wk w j = tOk σ wk w j := by
  have e1 : σ' (TB 0) 1 = σ (TB 0) 1 := h.1 _ _ (by unfold TB; omega) (by unfold TB; omega) (by unfold TB; omega)
  have hn := hT.2.1
  unfold tOk
  rw [e1]
  refine FI_congrI (by omega) (fun a i h0 hi => ?_)
  have eB : isB σ' 0 w (i - 1) = isB σ 0 w (i - 1) := by
    unfold isB
    rw [h.1 (TR 0 w) _ (by unfold TR; omega) (by unfold TR; omega) (by unfold TR; omega)]
  have eC : cW σ' 0 w (i - 1) = cW σ 0 w (i - 1) := by
    unfold cW
    rw [h.1 (TR 0 w) _ (by unfold TR; omega) (by unfold TR; omega) (by unfold TR; omega), h.1 (TI 0) _ (by unfold TI; omega) (by unfold TI; omega) (by unfold TI; omega)]
  rw [eB, eC, h.rw hT wk 0 _ (by omega)]
theorem CH.chp {σ σ' : St} (hT : TOK σ 0) (h : CH σ σ') : CHP σ' := by
  have e0 : σ' (TB 0) 0 = σ (TB 0) 0 := h.1 _ _ (by unfold TB; omega) (by unfold TB; omega) (by unfold TB; omega)
  have e1 : σ' (TB 0) 1 = σ (TB 0) 1 := h.1 _ _ (by unfold TB; omega) (by unfold TB; omega) (by unfold TB; omega)
  refine ⟨?_, fun w a b => ?_⟩
  · rw [h.2.1]
    have := RW_b hT (AW σ) 0 0 (by omega)
    omega
  · rw [e0] at b
    rw [h.2.2 w a b, e1]
    exact fP_r hT w
/-- the room, or -1: what dearest looks at -/
def rdP (σ : St) (w : Int) : Int := if fP σ w = -1 then -1 else rmP σ w
def moP (σ : St) (i : Int) : Int := FI (fun a w => if a < rdP σ w then rdP σ w else a) (-1) i
def deP (σ : St) : Int := FI (fun a w => if moP σ w < rdP σ w then w else a) (-1) (σ (TB 0) 0)
theorem deP_of {σ σ' : St} (hT : TOK σ 0) (h : CH σ σ') : deS σ' (σ' (TB 0) 0) = deP σ := by
  have e0 : σ' (TB 0) 0 = σ (TB 0) 0 := h.1 _ _ (by unfold TB; omega) (by unfold TB; omega) (by unfold TB; omega)
  have hm := hT.1
  have hr : ∀ w, 0 ≤ w → w < σ (TB 0) 0 → rmO σ' w = rdP σ w := fun w a b => by
    unfold rmO rdP rmP
    rw [h.2.2 w a b, h.2.1, h.aw, h.to hT (by omega)]
  have hmo : ∀ n : Nat, (n : Int) ≤ σ (TB 0) 0 → moS σ' n = moP σ n := fun n a => by
    unfold moS moP
    exact FI_congr n (fun x w b c => by rw [hr w b (by omega)])
  unfold deS deP
  rw [e0]
  refine FI_congrI hm.1 (fun a w b c => ?_)
  have := hmo w.toNat (by omega)
  rw [Int.toNat_of_nonneg b] at this
  rw [this, hr w b c]
theorem deP_r {σ : St} : ∀ n : Nat, -1 ≤ FI (fun a w => if moP σ w < rdP σ w then w else a) (-1) n ∧ FI (fun a w => if moP σ w < rdP σ w then w else a) (-1) n < n ∨ FI (fun a w => if moP σ w < rdP σ w then w else a) (-1) n = -1 := by
  intro n
  induction n with
  | zero => exact Or.inr rfl
  | succ n ih =>
    have e : ((n + 1 : Nat) : Int) = (n : Int) + 1 := by omega
    rw [e, FI_s (by omega)]
    by_cases hc : moP σ n < rdP σ n
    · rw [if_pos hc]; omega
    · rw [if_neg hc]; omega
def cPP (σ : St) : Int := FI (fun a w => if fP σ w = -1 then a else a + 1) 0 (σ (TB 0) 0)
theorem cPP_of {σ σ' : St} (hT : TOK σ 0) (h : CH σ σ') : cP σ' (σ' (TB 0) 0) = cPP σ := by
  have e0 : σ' (TB 0) 0 = σ (TB 0) 0 := h.1 _ _ (by unfold TB; omega) (by unfold TB; omega) (by unfold TB; omega)
  unfold cP cPP
  rw [e0]
  exact FI_congrI hT.1.1 (fun a w b c => by rw [h.2.2 w b c])
theorem iI_bv (z : Int) : (iI z).toBitVec = BitVec.ofInt 32 z := rfl
def us (k m : Int) : Int := if m = 0 then k else (k % 4294967296) / p2 m
theorem b_ushr {k m : Int} (hm : 0 ≤ m ∧ m ≤ 7) : ((iI k).toUInt32 >>> ((iI m).toUInt32 &&& Int32.toUInt32 31)).toInt32 = iI (us k m) := by
  have key : ∀ n : Nat, n < 8 → (((iI (n : Int)).toUInt32 &&& Int32.toUInt32 31).toBitVec % 32).toNat = n := by decide +kernel
  obtain ⟨n, rfl⟩ := Int.eq_ofNat_of_zero_le hm.1
  have h := pk_ushr (iI k) (iI (n : Int)) n (key n (by omega))
  apply Int32.toBitVec_inj.mp
  apply BitVec.eq_of_toNat_eq
  rw [h, iI_bv, iI_bv, BitVec.toNat_ofInt, BitVec.toNat_ofInt]
  have e : p2 (n : Int) = ((2 ^ n : Nat) : Int) := by
    unfold p2
    rw [Int.toNat_natCast]
    simp
  unfold us
  have h1 : 0 ≤ k % 4294967296 := Int.emod_nonneg _ (by omega)
  have h2 : k % 4294967296 < 4294967296 := Int.emod_lt_of_pos _ (by omega)
  by_cases h0 : (n : Int) = 0
  · have hn0 : n = 0 := by omega
    subst hn0
    rw [if_pos h0]
    simp
  · rw [if_neg h0, e]
    obtain ⟨a, ha⟩ := Int.eq_ofNat_of_zero_le h1
    show (k % 4294967296).toNat / 2 ^ n = (k % 4294967296 / ((2 ^ n : Nat) : Int) % 4294967296).toNat
    rw [ha]
    have h3 : (a : Int) / ((2 ^ n : Nat) : Int) = ((a / 2 ^ n : Nat) : Int) := (Int.natCast_ediv a (2 ^ n)).symm
    rw [h3]
    have h4 : a / 2 ^ n ≤ a := Nat.div_le_self _ _
    rw [ha] at h2
    have h5 : ((a / 2 ^ n : Nat) : Int) ≤ (a : Int) := by exact_mod_cast h4
    rw [Int.emod_eq_of_lt (Int.natCast_nonneg _) (by omega), Int.toNat_natCast, Int.toNat_natCast]
theorem us_b {k m : Int} (hk : InR k) (hm : 0 ≤ m ∧ m ≤ 7) : InR (us k m) ∧ (us k m = 0 ↔ 0 ≤ k ∧ k < p2 m) := by
  unfold InR at hk
  have hp := p2_n hm
  unfold us
  by_cases h0 : m = 0
  · rw [if_pos h0, h0]
    have : p2 0 = 1 := rfl
    refine ⟨hk, ?_⟩
    rw [this]
    omega
  · rw [if_neg h0]
    have h1 : 0 ≤ k % 4294967296 := Int.emod_nonneg _ (by omega)
    have h2 : k % 4294967296 < 4294967296 := Int.emod_lt_of_pos _ (by omega)
    have h3 := p2_lt (k := 0) (n := m) (by omega) (by omega) (by omega)
    have h4 : p2 0 = 1 := rfl
    have h5 : 0 ≤ k % 4294967296 / p2 m := Int.ediv_nonneg h1 (by omega)
    have h6 : k % 4294967296 / p2 m * p2 m ≤ k % 4294967296 := Int.ediv_mul_le _ (by omega)
    have h7 : 2 * (k % 4294967296 / p2 m) ≤ k % 4294967296 / p2 m * p2 m := by
      rw [Int.mul_comm]
      exact Int.mul_le_mul_of_nonneg_left (by omega) h5
    refine ⟨⟨by omega, by omega⟩, ?_, fun h => ?_⟩
    · intro hz
      have h8 := Int.emod_add_mul_ediv (k % 4294967296) (p2 m)
      rw [hz, Int.mul_zero] at h8
      have h9 := Int.emod_lt_of_pos (k % 4294967296) (show 0 < p2 m by omega)
      omega
    · rw [Int.emod_eq_of_lt h.1 (by omega)]
      exact Int.ediv_eq_zero_of_lt h.1 h.2
theorem lk3 {z : Int} (h : z = 0 ∨ z = 1 ∨ z = 2 ∨ z = 3) : True := trivial
set_option maxHeartbeats 4000000 in
set_option maxRecDepth 100000 in
theorem k_X6_total (E0 : EV) {ad : Int → Nat} {σ : St} (hC : CI σ) : MGE E0 yX6_total wsX6_total 5 114 ad σ [.ref (ad 0)] (PI (fun z σ' => z = RW σ (AW σ) 0 0 ∧ QQ σ σ')) := by
  refine MGE.of (cc := cX6_total) (maxL := 1) (ret := (some .int)) (own := RX6) [some (.ref (ad 0))] (by decide +kernel) rfl rfl (Nat.le_of_ble_eq_true rfl) rfl rfl (fun E X hr => ?_)
  have i6 : ∀ w ∈ wsX60, w ∈ wsX6_total := by decide +kernel
  refine g_rg (fun hR0 => ?_)
  have hT0 := hC.1 0 (by omega) (by omega)
  have hT5 := hC.1 5 (by omega) (by omega)
  have hm := hT0.1
  have hn := hT0.2.1
  refine g_aload0 X dX6_total_0 ?_
  refine gf_6_plans X i6 (by decide +kernel) dX6_total_1 ?_
  refine g_I0 X (k_X1_leastTotal E hT0) gX6_total_X1_leastTotal rfl (by decide +kernel) (by decide) ob_3 (Nat.le_of_ble_eq_true rfl) dX6_total_4 (fun z4 σ4 hz4 hp4 => ?_)
  refine g_rg (fun hR4 => ?_)
  exact g_iret X hr (by first | exact hR4 _ _ | exact hR0 _ _ | assumption | (unfold InR; omega)) ⟨hp4.1, hp4.2.1.qq hT5⟩ dX6_total_7

set_option maxHeartbeats 4000000 in
set_option maxRecDepth 100000 in
theorem k_X6_taskOf (E0 : EV) {ad : Int → Nat} {σ : St} {x1 : Int} (hC : CI σ)(hx1 : InR x1) : MGE E0 yX6_taskOf wsX6_taskOf 6 136 ad σ [.ref (ad 0), .int (iI x1)] (PI (fun z σ' => z = (if 0 ≤ x1 ∧ x1 < σ (TB 0) 0 then (if fP σ x1 = -1 then -4 else fP σ x1) else -1) ∧ QQ σ σ')) := by
  refine MGE.of (cc := cX6_taskOf) (maxL := 3) (ret := (some .int)) (own := RX6) [some (.ref (ad 0)), some (.int (iI x1)), none] (by decide +kernel) rfl rfl (Nat.le_of_ble_eq_true rfl) rfl rfl (fun E X hr => ?_)
  have i1 : ∀ w ∈ wsX10, w ∈ wsX6_taskOf := by decide +kernel
  have i6 : ∀ w ∈ wsX60, w ∈ wsX6_taskOf := by decide +kernel
  refine g_rg (fun hR0 => ?_)
  have hT0 := hC.1 0 (by omega) (by omega)
  have hT5 := hC.1 5 (by omega) (by omega)
  have hm := hT0.1
  have hn := hT0.2.1
  have hw := iW_01 σ x1
  refine g_aload0 X dX6_taskOf_0 ?_
  refine g_iload1 X dX6_taskOf_1 ?_
  refine g_F1 X (k_X6_isWorker E hT0 hx1) gX6_taskOf_X6_isWorker rfl (by decide +kernel) (by decide) ob_0 (Nat.le_of_ble_eq_true rfl) dX6_taskOf_2 (fun hz2 => ?_)
  refine g_rg (fun hR2 => ?_)
  refine g_if_ne (tgt := 10) X (by first | exact hR2 _ _ | exact hR0 _ _ | assumption | (unfold InR; omega)) dX6_taskOf_5 (by decide) (fun h5 => ?_) (fun h5 => ?_)
  · skip
    refine g_aload0 X dX6_taskOf_10 ?_
    refine gf_6_plans X i6 (by decide +kernel) dX6_taskOf_11 ?_
    refine g_V0 X (k_X1_chooseFirst E hT0) gX6_taskOf_X1_chooseFirst rfl (by decide +kernel) (by decide) ob_3 (Nat.le_of_ble_eq_true rfl) dX6_taskOf_14 (fun σ14 hp14 => ?_)
    refine g_rg (fun hR14 => ?_)
    have hT1 := hp14.tok hT0
    have hCh := hp14.chp hT0
    have e0 : σ14 (TB 0) 0 = σ (TB 0) 0 := hp14.1 _ _ (by unfold TB; omega) (by unfold TB; omega) (by unfold TB; omega)
    have e1 : σ14 (TB 0) 1 = σ (TB 0) 1 := hp14.1 _ _ (by unfold TB; omega) (by unfold TB; omega) (by unfold TB; omega)
    have ew := hp14.2.2 x1 (by omega) (by omega)
    have ef := fP_r hT0 x1
    refine g_aload0 X dX6_taskOf_17 ?_
    refine gf_6_plans X i6 (by decide +kernel) dX6_taskOf_18 ?_
    refine gf_1_chosen X i1 (by decide +kernel) dX6_taskOf_21 ?_
    refine g_iload1 X dX6_taskOf_24 ?_
    refine g_iald X (ia_4 (by omega)) dX6_taskOf_25 ?_
    refine g_istore2 X dX6_taskOf_26 (by decide) (by first | exact Or.inl rfl | exact Or.inr ⟨_, rfl, rfl⟩) ?_
    refine g_iload2 X dX6_taskOf_27 ?_
    refine g_iconst X dX6_taskOf_28 ?_
    refine g_icmp_ne (tgt := 37) X (by first | exact hR14 _ _ | exact hR2 _ _ | exact hR0 _ _ | assumption | (unfold InR; omega)) (by first | exact hR14 _ _ | exact hR2 _ _ | exact hR0 _ _ | assumption | (unfold InR; omega)) dX6_taskOf_29 (by decide) (fun h29 => ?_) (fun h29 => ?_)
    · skip
      refine g_iload2 X dX6_taskOf_37 ?_
      exact g_iret X hr (by first | exact hR14 _ _ | exact hR2 _ _ | exact hR0 _ _ | assumption | (unfold InR; omega)) ⟨by rw [if_pos (by omega)]; first | (rw [if_pos (by omega)]; done) | (rw [if_neg (by omega), ew]; done), hp14.qq hT5⟩ dX6_taskOf_38
    · skip
      refine g_bipush X dX6_taskOf_32 (by decide +kernel) ?_
      refine g_goto (tgt := 38) X dX6_taskOf_34 (by decide) ?_
      exact g_iret X hr (by first | exact hR14 _ _ | exact hR2 _ _ | exact hR0 _ _ | assumption | (unfold InR; omega)) ⟨by rw [if_pos (by omega)]; first | (rw [if_pos (by omega)]; done) | (rw [if_neg (by omega), ew]; done), hp14.qq hT5⟩ dX6_taskOf_38
  · skip
    refine g_iconst X dX6_taskOf_8 ?_
    exact g_iret X hr (by first | exact hR2 _ _ | exact hR0 _ _ | assumption | (unfold InR; omega)) ⟨(by repeat (first | rw [if_pos (by omega)] | rw [if_neg (by omega)]); all_goals omega), QQ.rf hT5⟩ dX6_taskOf_9

set_option maxHeartbeats 4000000 in
set_option maxRecDepth 100000 in
theorem k_X6_workerOf (E0 : EV) {ad : Int → Nat} {σ : St} {x1 : Int} (hC : CI σ)(hx1 : InR x1) : MGE E0 yX6_workerOf wsX6_workerOf 6 136 ad σ [.ref (ad 0), .int (iI x1)] (PI (fun z σ' => z = (if 0 ≤ x1 ∧ x1 < σ (TB 0) 1 then (if wOf σ x1 = -1 then -4 else wOf σ x1) else -1) ∧ QQ σ σ')) := by
  refine MGE.of (cc := cX6_workerOf) (maxL := 3) (ret := (some .int)) (own := RX6) [some (.ref (ad 0)), some (.int (iI x1)), none] (by decide +kernel) rfl rfl (Nat.le_of_ble_eq_true rfl) rfl rfl (fun E X hr => ?_)
  have i1 : ∀ w ∈ wsX10, w ∈ wsX6_workerOf := by decide +kernel
  have i4 : ∀ w ∈ wsX40, w ∈ wsX6_workerOf := by decide +kernel
  have i6 : ∀ w ∈ wsX60, w ∈ wsX6_workerOf := by decide +kernel
  refine g_rg (fun hR0 => ?_)
  have hT0 := hC.1 0 (by omega) (by omega)
  have hT5 := hC.1 5 (by omega) (by omega)
  have hm := hT0.1
  have hn := hT0.2.1
  have hw := iK_01 σ x1
  refine g_aload0 X dX6_workerOf_0 ?_
  refine g_iload1 X dX6_workerOf_1 ?_
  refine g_F1 X (k_X6_isTask E hT0 hx1) gX6_workerOf_X6_isTask rfl (by decide +kernel) (by decide) ob_0 (Nat.le_of_ble_eq_true rfl) dX6_workerOf_2 (fun hz2 => ?_)
  refine g_rg (fun hR2 => ?_)
  refine g_if_ne (tgt := 10) X (by first | exact hR2 _ _ | exact hR0 _ _ | assumption | (unfold InR; omega)) dX6_workerOf_5 (by decide) (fun h5 => ?_) (fun h5 => ?_)
  · skip
    refine g_aload0 X dX6_workerOf_10 ?_
    refine gf_6_plans X i6 (by decide +kernel) dX6_workerOf_11 ?_
    refine g_V0 X (k_X1_chooseFirst E hT0) gX6_workerOf_X1_chooseFirst rfl (by decide +kernel) (by decide) ob_3 (Nat.le_of_ble_eq_true rfl) dX6_workerOf_14 (fun σ14 hp14 => ?_)
    refine g_rg (fun hR14 => ?_)
    have hT1 := hp14.tok hT0
    have hCh := hp14.chp hT0
    have e0 : σ14 (TB 0) 0 = σ (TB 0) 0 := hp14.1 _ _ (by unfold TB; omega) (by unfold TB; omega) (by unfold TB; omega)
    have e1 : σ14 (TB 0) 1 = σ (TB 0) 1 := hp14.1 _ _ (by unfold TB; omega) (by unfold TB; omega) (by unfold TB; omega)
    refine g_iconst X dX6_workerOf_17 ?_
    refine g_istore2 X dX6_workerOf_18 (by decide) (by first | exact Or.inl rfl | exact Or.inr ⟨_, rfl, rfl⟩) ?_
    have L19 : ∀ (n19 : Nat) (i : Int), (σ (TB 0) 0 - i).toNat < n19 → (0 ≤ i ∧ i ≤ σ (TB 0) 0) → (wOf σ x1 = fsP (fun w => decide (fP σ w = x1)) (σ (TB 0) 0) (σ (TB 0) 0 - i).toNat) → WG E ad 3 σ14 19 [some (.ref (ad 0)), some (.int (iI x1)), some (.int (iI i))] [] := by
      intro n19
      induction n19 with
      | zero => intro i hn; exact absurd hn (Nat.not_lt_zero _)
      | succ n19 ih19 =>
        intro i hn19 hi hs
        refine g_rg (fun hRL19 => ?_)
        refine g_iload2 X dX6_workerOf_19 ?_
        refine g_aload0 X dX6_workerOf_20 ?_
        refine gf_6_table X i6 (by decide +kernel) dX6_workerOf_21 ?_
        refine gf_4_workers X (by omega) i4 (by decide +kernel) dX6_workerOf_24 ?_
        refine g_icmp_ge (tgt := 51) X (by first | exact hRL19 _ _ | exact hR14 _ _ | exact hR2 _ _ | exact hR0 _ _ | assumption | (unfold InR; omega)) (by first | exact hRL19 _ _ | exact hR14 _ _ | exact hR2 _ _ | exact hR0 _ _ | assumption | (unfold InR; omega)) dX6_workerOf_27 (by decide) (fun h27 => ?_) (fun h27 => ?_)
        · skip
          refine g_bipush X dX6_workerOf_51 (by decide +kernel) ?_
          exact g_iret X hr (by first | exact hRL19 _ _ | exact hR14 _ _ | exact hR2 _ _ | exact hR0 _ _ | assumption | (unfold InR; omega)) ⟨by rw [if_pos (by omega), hs, show (σ (TB 0) 0 - i).toNat = 0 by omega]; rfl, hp14.qq hT5⟩ dX6_workerOf_53
        · skip
          have ew := hp14.2.2 i hi.1 (by omega)
          refine g_aload0 X dX6_workerOf_30 ?_
          refine gf_6_plans X i6 (by decide +kernel) dX6_workerOf_31 ?_
          refine gf_1_chosen X i1 (by decide +kernel) dX6_workerOf_34 ?_
          refine g_iload2 X dX6_workerOf_37 ?_
          refine g_iald X (ia_4 (by omega)) dX6_workerOf_38 ?_
          refine g_iload1 X dX6_workerOf_39 ?_
          refine g_icmp_ne (tgt := 45) X (by first | exact hRL19 _ _ | exact hR14 _ _ | exact hR2 _ _ | exact hR0 _ _ | assumption | (unfold InR; omega)) (by first | exact hRL19 _ _ | exact hR14 _ _ | exact hR2 _ _ | exact hR0 _ _ | assumption | (unfold InR; omega)) dX6_workerOf_40 (by decide) (fun h40 => ?_) (fun h40 => ?_)
          · skip
            refine g_iinc2 X dX6_workerOf_45 (by decide) (by first | exact Or.inl rfl | exact Or.inr ⟨_, rfl, rfl⟩) ?_
            refine g_goto (tgt := 19) X dX6_workerOf_48 (by decide) ?_
            refine ih19 _ (by omega) ?_ ?_
            · omega
            · rw [hs, fsP_s ⟨hi.1, by omega⟩, if_neg (by rw [← ew]; simpa using h40)]
          · skip
            refine g_iload2 X dX6_workerOf_43 ?_
            exact g_iret X hr (by first | exact hRL19 _ _ | exact hR14 _ _ | exact hR2 _ _ | exact hR0 _ _ | assumption | (unfold InR; omega)) (by
    have hsv : wOf σ x1 = i := by
      rw [hs, fsP_s ⟨hi.1, by omega⟩]
      simp [← ew, h40]
    exact ⟨by rw [if_pos (by omega), hsv, if_neg (by omega)], hp14.qq hT5⟩) dX6_workerOf_44
    refine L19 _ _ (Nat.lt_succ_self _) ?_ ?_
    · omega
    · rw [Int.sub_zero]
      rfl
  · skip
    refine g_iconst X dX6_workerOf_8 ?_
    exact g_iret X hr (by first | exact hR2 _ _ | exact hR0 _ _ | assumption | (unfold InR; omega)) ⟨(by repeat (first | rw [if_pos (by omega)] | rw [if_neg (by omega)]); all_goals omega), QQ.rf hT5⟩ dX6_workerOf_9

set_option maxHeartbeats 4000000 in
set_option maxRecDepth 100000 in
theorem k_X6_price (E0 : EV) {ad : Int → Nat} {σ : St} {x1 x2 : Int} (hC : CI σ)(hx1 : InR x1)(hx2 : InR x2) : MGE E0 yX6_price wsX6_price 6 138 ad σ [.ref (ad 0), .int (iI x1), .int (iI x2)] (PI (fun z σ' => z = (if (0 ≤ x1 ∧ x1 < σ (TB 0) 1) ∧ 0 ≤ x2 ∧ x2 ≤ 1 then (if x2 = 1 then grP σ x1 else lpP σ x1) else -1) ∧ QQ σ σ')) := by
  refine MGE.of (cc := cX6_price) (maxL := 3) (ret := (some .int)) (own := RX6) [some (.ref (ad 0)), some (.int (iI x1)), some (.int (iI x2))] (by decide +kernel) rfl rfl (Nat.le_of_ble_eq_true rfl) rfl rfl (fun E X hr => ?_)
  have i2 : ∀ w ∈ wsX20, w ∈ wsX6_price := by decide +kernel
  have i6 : ∀ w ∈ wsX60, w ∈ wsX6_price := by decide +kernel
  refine g_rg (fun hR0 => ?_)
  have hT0 := hC.1 0 (by omega) (by omega)
  have hT5 := hC.1 5 (by omega) (by omega)
  have hm := hT0.1
  have hn := hT0.2.1
  have hw := iK_01 σ x1
  refine g_aload0 X dX6_price_0 ?_
  refine g_iload1 X dX6_price_1 ?_
  refine g_F1 X (k_X6_isTask E hT0 hx1) gX6_price_X6_isTask rfl (by decide +kernel) (by decide) ob_0 (Nat.le_of_ble_eq_true rfl) dX6_price_2 (fun hz2 => ?_)
  refine g_rg (fun hR2 => ?_)
  refine g_if_eq (tgt := 17) X (by first | exact hR2 _ _ | exact hR0 _ _ | assumption | (unfold InR; omega)) dX6_price_5 (by decide) (fun h5 => ?_) (fun h5 => ?_)
  · skip
    refine g_iconst X dX6_price_17 ?_
    exact g_iret X hr (by first | exact hR2 _ _ | exact hR0 _ _ | assumption | (unfold InR; omega)) ⟨(by repeat (first | rw [if_pos (by omega)] | rw [if_neg (by omega)]); all_goals omega), QQ.rf hT5⟩ dX6_price_18
  · skip
    refine g_iload2 X dX6_price_8 ?_
    refine g_if_lt (tgt := 17) X (by first | exact hR2 _ _ | exact hR0 _ _ | assumption | (unfold InR; omega)) dX6_price_9 (by decide) (fun h9 => ?_) (fun h9 => ?_)
    · skip
      refine g_iconst X dX6_price_17 ?_
      exact g_iret X hr (by first | exact hR2 _ _ | exact hR0 _ _ | assumption | (unfold InR; omega)) ⟨(by repeat (first | rw [if_pos (by omega)] | rw [if_neg (by omega)]); all_goals omega), QQ.rf hT5⟩ dX6_price_18
    · skip
      refine g_iload2 X dX6_price_12 ?_
      refine g_iconst X dX6_price_13 ?_
      refine g_icmp_le (tgt := 19) X (by first | exact hR2 _ _ | exact hR0 _ _ | assumption | (unfold InR; omega)) (by first | exact hR2 _ _ | exact hR0 _ _ | assumption | (unfold InR; omega)) dX6_price_14 (by decide) (fun h14 => ?_) (fun h14 => ?_)
      · skip
        refine g_iload2 X dX6_price_19 ?_
        refine g_iconst X dX6_price_20 ?_
        refine g_icmp_ne (tgt := 33) X (by first | exact hR2 _ _ | exact hR0 _ _ | assumption | (unfold InR; omega)) (by first | exact hR2 _ _ | exact hR0 _ _ | assumption | (unfold InR; omega)) dX6_price_21 (by decide) (fun h21 => ?_) (fun h21 => ?_)
        · skip
          refine g_aload0 X dX6_price_33 ?_
          refine gf_6_prices X i6 (by decide +kernel) dX6_price_34 ?_
          refine g_V0 X (k_X2_findLeast E hT0) gX6_price_X2_findLeast rfl (by decide +kernel) (by decide) ob_6 (Nat.le_of_ble_eq_true rfl) dX6_price_37 (fun σ37 hp37 => ?_)
          refine g_rg (fun hR37 => ?_)
          refine g_aload0 X dX6_price_40 ?_
          refine gf_6_prices X i6 (by decide +kernel) dX6_price_41 ?_
          refine gf_2_least X i2 (by decide +kernel) dX6_price_44 ?_
          refine g_iload1 X dX6_price_47 ?_
          refine g_iald X (ia_7 (by omega)) dX6_price_48 ?_
          exact g_iret X hr (by first | exact hR37 _ _ | exact hR2 _ _ | exact hR0 _ _ | assumption | (unfold InR; omega)) ⟨by rw [if_pos (by omega), if_neg (by omega), hp37.2 x1 (by omega) (by omega)], hp37.1.qq hT5⟩ dX6_price_49
        · skip
          refine g_aload0 X dX6_price_24 ?_
          refine gf_6_prices X i6 (by decide +kernel) dX6_price_25 ?_
          refine g_iload1 X dX6_price_28 ?_
          refine g_I1 X (k_X2_greatestOf E hT0 (by omega)) gX6_price_X2_greatestOf rfl (by decide +kernel) (by decide) ob_6 (Nat.le_of_ble_eq_true rfl) dX6_price_29 (fun z29 σ29 hz29 hp29 => ?_)
          refine g_rg (fun hR29 => ?_)
          exact g_iret X hr (by first | exact hR29 _ _ | exact hR2 _ _ | exact hR0 _ _ | assumption | (unfold InR; omega)) ⟨by rw [if_pos (by omega), if_pos (by omega), hp29.1], hp29.2.qq hT5⟩ dX6_price_32
      · skip
        refine g_iconst X dX6_price_17 ?_
        exact g_iret X hr (by first | exact hR2 _ _ | exact hR0 _ _ | assumption | (unfold InR; omega)) ⟨(by repeat (first | rw [if_pos (by omega)] | rw [if_neg (by omega)]); all_goals omega), QQ.rf hT5⟩ dX6_price_18

set_option maxHeartbeats 4000000 in
set_option maxRecDepth 100000 in
theorem k_X6_workerIs (E0 : EV) {ad : Int → Nat} {σ : St} {x1 x2 : Int} (hC : CI σ)(hx1 : InR x1)(hx2 : InR x2) : MGE E0 yX6_workerIs wsX6_workerIs 6 138 ad σ [.ref (ad 0), .int (iI x1), .int (iI x2)] (PI (fun z σ' => z = (if (0 ≤ x1 ∧ x1 < σ (TB 0) 0) ∧ 0 ≤ x2 ∧ x2 ≤ 3 then (if x2 = 3 then shR σ x1 else if x2 = 0 then wOP σ x1 else if x2 = 1 then tgP σ x1 else if wOP σ x1 = σ (TI 0) x1 then 1 else 0) else -1) ∧ QQ σ σ')) := by
  refine MGE.of (cc := cX6_workerIs) (maxL := 3) (ret := (some .int)) (own := RX6) [some (.ref (ad 0)), some (.int (iI x1)), some (.int (iI x2))] (by decide +kernel) rfl rfl (Nat.le_of_ble_eq_true rfl) rfl rfl (fun E X hr => ?_)
  have i4 : ∀ w ∈ wsX40, w ∈ wsX6_workerIs := by decide +kernel
  have i6 : ∀ w ∈ wsX60, w ∈ wsX6_workerIs := by decide +kernel
  refine g_rg (fun hR0 => ?_)
  have hT0 := hC.1 0 (by omega) (by omega)
  have hT5 := hC.1 5 (by omega) (by omega)
  have hm := hT0.1
  have hn := hT0.2.1
  have hw := iW_01 σ x1
  refine g_aload0 X dX6_workerIs_0 ?_
  refine g_iload1 X dX6_workerIs_1 ?_
  refine g_F1 X (k_X6_isWorker E hT0 hx1) gX6_workerIs_X6_isWorker rfl (by decide +kernel) (by decide) ob_0 (Nat.le_of_ble_eq_true rfl) dX6_workerIs_2 (fun hz2 => ?_)
  refine g_rg (fun hR2 => ?_)
  refine g_if_eq (tgt := 17) X (by first | exact hR2 _ _ | exact hR0 _ _ | assumption | (unfold InR; omega)) dX6_workerIs_5 (by decide) (fun h5 => ?_) (fun h5 => ?_)
  · skip
    refine g_iconst X dX6_workerIs_17 ?_
    exact g_iret X hr (by first | exact hR2 _ _ | exact hR0 _ _ | assumption | (unfold InR; omega)) ⟨(by repeat (first | rw [if_pos (by omega)] | rw [if_neg (by omega)]); all_goals omega), QQ.rf hT5⟩ dX6_workerIs_18
  · skip
    refine g_iload2 X dX6_workerIs_8 ?_
    refine g_if_lt (tgt := 17) X (by first | exact hR2 _ _ | exact hR0 _ _ | assumption | (unfold InR; omega)) dX6_workerIs_9 (by decide) (fun h9 => ?_) (fun h9 => ?_)
    · skip
      refine g_iconst X dX6_workerIs_17 ?_
      exact g_iret X hr (by first | exact hR2 _ _ | exact hR0 _ _ | assumption | (unfold InR; omega)) ⟨(by repeat (first | rw [if_pos (by omega)] | rw [if_neg (by omega)]); all_goals omega), QQ.rf hT5⟩ dX6_workerIs_18
    · skip
      refine g_iload2 X dX6_workerIs_12 ?_
      refine g_iconst X dX6_workerIs_13 ?_
      refine g_icmp_le (tgt := 19) X (by first | exact hR2 _ _ | exact hR0 _ _ | assumption | (unfold InR; omega)) (by first | exact hR2 _ _ | exact hR0 _ _ | assumption | (unfold InR; omega)) dX6_workerIs_14 (by decide) (fun h14 => ?_) (fun h14 => ?_)
      · skip
        refine g_iload2 X dX6_workerIs_19 ?_
        refine g_iconst X dX6_workerIs_20 ?_
        refine g_icmp_ne (tgt := 48) X (by first | exact hR2 _ _ | exact hR0 _ _ | assumption | (unfold InR; omega)) (by first | exact hR2 _ _ | exact hR0 _ _ | assumption | (unfold InR; omega)) dX6_workerIs_21 (by decide) (fun h21 => ?_) (fun h21 => ?_)
        · skip
          refine g_aload0 X dX6_workerIs_48 ?_
          refine gf_6_prices X i6 (by decide +kernel) dX6_workerIs_49 ?_
          refine g_V0 X (k_X2_findLeast E hT0) gX6_workerIs_X2_findLeast rfl (by decide +kernel) (by decide) ob_6 (Nat.le_of_ble_eq_true rfl) dX6_workerIs_52 (fun σ52 hp52 => ?_)
          refine g_rg (fun hR52 => ?_)
          have hT1 := hp52.1.tok hT0
          have hPL := hp52.pl hT0
          obtain ⟨e0, e1, e2, e3⟩ := hp52.at hT0
          have ewo := wOP_of hT0 hp52 (w := x1) (by omega)
          have etg := tgP_of hT0 hp52 (w := x1) (by omega)
          have e2x := e2 x1
          refine g_iload2 X dX6_workerIs_55 ?_
          rcases (show x2 = 0 ∨ x2 = 1 ∨ x2 = 2 by omega) with h56 | h56 | h56
          · skip
            refine g_look (tgt := 84) X (by first | exact hR52 _ _ | exact hR2 _ _ | exact hR0 _ _ | assumption | (unfold InR; omega)) dX6_workerIs_56 (by decide) (by rw [h56]; try rfl) (by decide) ?_
            refine g_aload0 X dX6_workerIs_84 ?_
            refine gf_6_prices X i6 (by decide +kernel) dX6_workerIs_85 ?_
            refine g_iload1 X dX6_workerIs_88 ?_
            refine g_F1 X (k_X2_worthOf E hT1 hPL (by omega)) gX6_workerIs_X2_worthOf rfl (by decide +kernel) (by decide) ob_6 (Nat.le_of_ble_eq_true rfl) dX6_workerIs_89 (fun hz89 => ?_)
            refine g_rg (fun hR89 => ?_)
            exact g_iret X hr (by first | exact hR89 _ _ | exact hR52 _ _ | exact hR2 _ _ | exact hR0 _ _ | assumption | (unfold InR; omega)) ⟨by rw [if_pos (by omega), if_neg (by omega), if_pos (by omega), ewo], hp52.1.qq hT5⟩ dX6_workerIs_92
          · skip
            refine g_look (tgt := 93) X (by first | exact hR52 _ _ | exact hR2 _ _ | exact hR0 _ _ | assumption | (unfold InR; omega)) dX6_workerIs_56 (by decide) (by rw [h56]; try rfl) (by decide) ?_
            refine g_aload0 X dX6_workerIs_93 ?_
            refine gf_6_prices X i6 (by decide +kernel) dX6_workerIs_94 ?_
            refine g_iload1 X dX6_workerIs_97 ?_
            refine g_F1 X (k_X2_tightTasksOf E hT1 hPL (by omega)) gX6_workerIs_X2_tightTasksOf rfl (by decide +kernel) (by decide) ob_6 (Nat.le_of_ble_eq_true rfl) dX6_workerIs_98 (fun hz98 => ?_)
            refine g_rg (fun hR98 => ?_)
            exact g_iret X hr (by first | exact hR98 _ _ | exact hR52 _ _ | exact hR2 _ _ | exact hR0 _ _ | assumption | (unfold InR; omega)) ⟨by rw [if_pos (by omega), if_neg (by omega), if_neg (by omega), if_pos (by omega), etg], hp52.1.qq hT5⟩ dX6_workerIs_101
          · skip
            refine g_look (tgt := 102) X (by first | exact hR52 _ _ | exact hR2 _ _ | exact hR0 _ _ | assumption | (unfold InR; omega)) dX6_workerIs_56 (by decide) (by rw [h56]; try rfl) (by decide) ?_
            refine g_aload0 X dX6_workerIs_102 ?_
            refine gf_6_prices X i6 (by decide +kernel) dX6_workerIs_103 ?_
            refine g_iload1 X dX6_workerIs_106 ?_
            refine g_F1 X (k_X2_worthOf E hT1 hPL (by omega)) gX6_workerIs_X2_worthOf rfl (by decide +kernel) (by decide) ob_6 (Nat.le_of_ble_eq_true rfl) dX6_workerIs_107 (fun hz107 => ?_)
            refine g_rg (fun hR107 => ?_)
            refine g_aload0 X dX6_workerIs_110 ?_
            refine gf_6_table X i6 (by decide +kernel) dX6_workerIs_111 ?_
            refine gf_4_idleCosts X (by omega) i4 (by decide +kernel) dX6_workerIs_114 ?_
            refine g_iload1 X dX6_workerIs_117 ?_
            refine g_iald X (ia_TI (by omega) (by omega)) dX6_workerIs_118 ?_
            refine g_icmp_ne (tgt := 126) X (by first | exact hR107 _ _ | exact hR52 _ _ | exact hR2 _ _ | exact hR0 _ _ | assumption | (unfold InR; omega)) (by first | exact hR107 _ _ | exact hR52 _ _ | exact hR2 _ _ | exact hR0 _ _ | assumption | (unfold InR; omega)) dX6_workerIs_119 (by decide) (fun h119 => ?_) (fun h119 => ?_)
            · skip
              refine g_iconst X dX6_workerIs_126 ?_
              exact g_iret X hr (by first | exact hR107 _ _ | exact hR52 _ _ | exact hR2 _ _ | exact hR0 _ _ | assumption | (unfold InR; omega)) ⟨by rw [if_pos (by omega), if_neg (by omega), if_neg (by omega), if_neg (by omega), ← ewo, ← e2x]; first | (rw [if_pos (by omega)]; done) | (rw [if_neg (by omega)]; done), hp52.1.qq hT5⟩ dX6_workerIs_127
            · skip
              refine g_iconst X dX6_workerIs_122 ?_
              refine g_goto (tgt := 127) X dX6_workerIs_123 (by decide) ?_
              exact g_iret X hr (by first | exact hR107 _ _ | exact hR52 _ _ | exact hR2 _ _ | exact hR0 _ _ | assumption | (unfold InR; omega)) ⟨by rw [if_pos (by omega), if_neg (by omega), if_neg (by omega), if_neg (by omega), ← ewo, ← e2x]; first | (rw [if_pos (by omega)]; done) | (rw [if_neg (by omega)]; done), hp52.1.qq hT5⟩ dX6_workerIs_127
        · skip
          refine g_aload0 X dX6_workerIs_24 ?_
          refine gf_6_plans X i6 (by decide +kernel) dX6_workerIs_25 ?_
          refine g_I0 X (k_X1_leastTotal E hT0) gX6_workerIs_X1_leastTotal rfl (by decide +kernel) (by decide) ob_3 (Nat.le_of_ble_eq_true rfl) dX6_workerIs_28 (fun z28 σ28 hz28 hp28 => ?_)
          refine g_rg (fun hR28 => ?_)
          have hF := hp28.2.1
          have hT1 := hT0.of hF
          have e0 : σ28 (TB 0) 0 = σ (TB 0) 0 := hF _ _ (by unfold TB; omega)
          have hub := ub_AW hT0 (w := x1) (by omega)
          have eA : ub (p2 (σ28 (TB 0) 0) - 1) x1 = ub (AW σ) x1 := by unfold AW; rw [e0]
          refine g_aload0 X dX6_workerIs_31 ?_
          refine gf_6_plans X i6 (by decide +kernel) dX6_workerIs_32 ?_
          refine g_aload0 X dX6_workerIs_35 ?_
          refine gf_6_table X i6 (by decide +kernel) dX6_workerIs_36 ?_
          refine g_iload1 X dX6_workerIs_39 ?_
          refine g_F1 X (k_X4_allWorkersBut E (by omega) (by omega) (by omega)) gX6_workerIs_X4_allWorkersBut rfl (by decide +kernel) (by decide) (ob_TB (by omega)) (Nat.le_of_ble_eq_true rfl) dX6_workerIs_40 (fun hz40 => ?_)
          refine g_rg (fun hR40 => ?_)
          rw [eA]
          refine g_I1 X (k_X1_leastTotalOf E hT1 (by omega)) gX6_workerIs_X1_leastTotalOf rfl (by decide +kernel) (by decide) ob_3 (Nat.le_of_ble_eq_true rfl) dX6_workerIs_43 (fun z43 σ43 hz43 hp43 => ?_)
          refine g_rg (fun hR43 => ?_)
          have ez : z43 = RW σ (ub (AW σ) x1) 0 0 := by rw [hp43.1, RW_FR hT0 hF _ _ _ (by omega)]
          have hb1 := RW_b hT0 (AW σ) 0 0 (by omega)
          have hb2 := RW_b hT0 (ub (AW σ) x1) 0 0 (by omega)
          have hz28 := hp28.1
          refine g_isub X dX6_workerIs_46 ?_
          exact g_iret X hr (by first | exact hR43 _ _ | exact hR40 _ _ | exact hR28 _ _ | exact hR2 _ _ | exact hR0 _ _ | assumption | (unfold InR; omega)) ⟨by rw [if_pos (by omega), if_pos (by omega), ez, hz28]; rfl, (hF.qq hT5).tr (hp43.2.1.qq (hT5.keep (fun q k a b => hF q k (by unfold TB at b; omega))))⟩ dX6_workerIs_47
      · skip
        refine g_iconst X dX6_workerIs_17 ?_
        exact g_iret X hr (by first | exact hR2 _ _ | exact hR0 _ _ | assumption | (unfold InR; omega)) ⟨(by repeat (first | rw [if_pos (by omega)] | rw [if_neg (by omega)]); all_goals omega), QQ.rf hT5⟩ dX6_workerIs_18

set_option maxHeartbeats 4000000 in
set_option maxRecDepth 100000 in
theorem k_X6_proof (E0 : EV) {ad : Int → Nat} {σ : St} (hC : CI σ) : MGE E0 yX6_proof wsX6_proof 6 138 ad σ [.ref (ad 0)] (PI (fun z σ' => z = sWP σ - sLP σ ∧ QQ σ σ')) := by
  refine MGE.of (cc := cX6_proof) (maxL := 1) (ret := (some .int)) (own := RX6) [some (.ref (ad 0))] (by decide +kernel) rfl rfl (Nat.le_of_ble_eq_true rfl) rfl rfl (fun E X hr => ?_)
  have i6 : ∀ w ∈ wsX60, w ∈ wsX6_proof := by decide +kernel
  refine g_rg (fun hR0 => ?_)
  have hT0 := hC.1 0 (by omega) (by omega)
  have hT5 := hC.1 5 (by omega) (by omega)
  have hm := hT0.1
  have hn := hT0.2.1
  refine g_aload0 X dX6_proof_0 ?_
  refine gf_6_prices X i6 (by decide +kernel) dX6_proof_1 ?_
  refine g_V0 X (k_X2_findLeast E hT0) gX6_proof_X2_findLeast rfl (by decide +kernel) (by decide) ob_6 (Nat.le_of_ble_eq_true rfl) dX6_proof_4 (fun σ4 hp4 => ?_)
  refine g_rg (fun hR4 => ?_)
  have hT1 := hp4.1.tok hT0
  have hPL := hp4.pl hT0
  obtain ⟨e0, e1, e2, e3⟩ := hp4.at hT0
  have ew := sWP_of hT0 hp4
  have el := sLP_of hT0 hp4
  refine g_aload0 X dX6_proof_7 ?_
  refine gf_6_prices X i6 (by decide +kernel) dX6_proof_8 ?_
  refine g_F0 X (k_X2_sumOfWorths E hT1 hPL) gX6_proof_X2_sumOfWorths rfl (by decide +kernel) (by decide) ob_6 (Nat.le_of_ble_eq_true rfl) dX6_proof_11 (fun hz11 => ?_)
  refine g_rg (fun hR11 => ?_)
  refine g_aload0 X dX6_proof_14 ?_
  refine gf_6_prices X i6 (by decide +kernel) dX6_proof_15 ?_
  refine g_F0 X (k_X2_sumOfLeast E hT1 hPL) gX6_proof_X2_sumOfLeast rfl (by decide +kernel) (by decide) ob_6 (Nat.le_of_ble_eq_true rfl) dX6_proof_18 (fun hz18 => ?_)
  refine g_rg (fun hR18 => ?_)
  have hb1 := sW_b hT1 hPL
  have hb2 := sL_b hT1 hPL
  refine g_isub X dX6_proof_21 ?_
  exact g_iret X hr (by first | exact hR18 _ _ | exact hR11 _ _ | exact hR4 _ _ | exact hR0 _ _ | assumption | (unfold InR; omega)) ⟨by rw [ew, el], hp4.1.qq hT5⟩ dX6_proof_22

set_option maxHeartbeats 4000000 in
set_option maxRecDepth 100000 in
theorem k_X6_count (E0 : EV) {ad : Int → Nat} {σ : St} {x1 : Int} (hC : CI σ)(hx1 : InR x1) : MGE E0 yX6_count wsX6_count 6 138 ad σ [.ref (ad 0), .int (iI x1)] (PI (fun z σ' => z = (if x1 = 0 then σ (TB 0) 0 else if x1 = 1 then σ (TB 0) 1 else if x1 = 2 then oP σ 0 (σ (TB 0) 1) (σ (TB 0) 0) else if x1 = 3 then cPP σ else if x1 = 4 then tPP σ else if x1 = 5 then sLP σ else if x1 = 6 then sG σ (σ (TB 0) 1) else if x1 = 7 then σ 1 0 else if x1 = 8 then σ 8 0 else -1) ∧ QQ σ σ')) := by
  refine MGE.of (cc := cX6_count) (maxL := 2) (ret := (some .int)) (own := RX6) [some (.ref (ad 0)), some (.int (iI x1))] (by decide +kernel) rfl rfl (Nat.le_of_ble_eq_true rfl) rfl rfl (fun E X hr => ?_)
  have i0 : ∀ w ∈ wsX00, w ∈ wsX6_count := by decide +kernel
  have i4 : ∀ w ∈ wsX40, w ∈ wsX6_count := by decide +kernel
  have i5 : ∀ w ∈ wsX50, w ∈ wsX6_count := by decide +kernel
  have i6 : ∀ w ∈ wsX60, w ∈ wsX6_count := by decide +kernel
  refine g_rg (fun hR0 => ?_)
  have hT0 := hC.1 0 (by omega) (by omega)
  have hT5 := hC.1 5 (by omega) (by omega)
  have hm := hT0.1
  have hn := hT0.2.1
  refine g_iload1 X dX6_count_0 ?_
  by_cases h1 : 0 ≤ x1 ∧ x1 ≤ 8
  · skip
    rcases (show x1 = 0 ∨ x1 = 1 ∨ x1 = 2 ∨ x1 = 3 ∨ x1 = 4 ∨ x1 = 5 ∨ x1 = 6 ∨ x1 = 7 ∨ x1 = 8 by omega) with g1 | g1 | g1 | g1 | g1 | g1 | g1 | g1 | g1
    · skip
      refine g_tin (tgt := 52) X (by first | exact hR0 _ _ | assumption | (unfold InR; omega)) dX6_count_1 (by omega) (by omega) (by rw [g1]; try rfl) (by decide) ?_
      refine g_aload0 X dX6_count_52 ?_
      refine gf_6_table X i6 (by decide +kernel) dX6_count_53 ?_
      refine gf_4_workers X (by omega) i4 (by decide +kernel) dX6_count_56 ?_
      exact g_iret X hr (by first | exact hR0 _ _ | assumption | (unfold InR; omega)) ⟨by rw [if_pos (by omega)], QQ.rf hT5⟩ dX6_count_59
    · skip
      refine g_tin (tgt := 60) X (by first | exact hR0 _ _ | assumption | (unfold InR; omega)) dX6_count_1 (by omega) (by omega) (by rw [g1]; try rfl) (by decide) ?_
      refine g_aload0 X dX6_count_60 ?_
      refine gf_6_table X i6 (by decide +kernel) dX6_count_61 ?_
      refine gf_4_tasks X (by omega) i4 (by decide +kernel) dX6_count_64 ?_
      exact g_iret X hr (by first | exact hR0 _ _ | assumption | (unfold InR; omega)) ⟨by rw [if_neg (by omega), if_pos (by omega)], QQ.rf hT5⟩ dX6_count_67
    · skip
      refine g_tin (tgt := 68) X (by first | exact hR0 _ _ | assumption | (unfold InR; omega)) dX6_count_1 (by omega) (by omega) (by rw [g1]; try rfl) (by decide) ?_
      refine g_aload0 X dX6_count_68 ?_
      refine gf_6_table X i6 (by decide +kernel) dX6_count_69 ?_
      refine g_F0 X (k_X4_openPairs E (by omega) hm hn) gX6_count_X4_openPairs rfl (by decide +kernel) (by decide) (ob_TB (by omega)) (Nat.le_of_ble_eq_true rfl) dX6_count_72 (fun hz72 => ?_)
      refine g_rg (fun hR72 => ?_)
      exact g_iret X hr (by first | exact hR72 _ _ | exact hR0 _ _ | assumption | (unfold InR; omega)) ⟨by rw [if_neg (by omega), if_neg (by omega), if_pos (by omega)], QQ.rf hT5⟩ dX6_count_75
    · skip
      refine g_tin (tgt := 76) X (by first | exact hR0 _ _ | assumption | (unfold InR; omega)) dX6_count_1 (by omega) (by omega) (by rw [g1]; try rfl) (by decide) ?_
      refine g_aload0 X dX6_count_76 ?_
      refine gf_6_plans X i6 (by decide +kernel) dX6_count_77 ?_
      refine g_V0 X (k_X1_chooseFirst E hT0) gX6_count_X1_chooseFirst rfl (by decide +kernel) (by decide) ob_3 (Nat.le_of_ble_eq_true rfl) dX6_count_80 (fun σ80 hp80 => ?_)
      refine g_rg (fun hR80 => ?_)
      have hT1 := hp80.tok hT0
      have hm1 := hT1.1
      have ec := cPP_of hT0 hp80
      refine g_aload0 X dX6_count_83 ?_
      refine gf_6_plans X i6 (by decide +kernel) dX6_count_84 ?_
      refine g_F0 X (k_X1_chosenPairs E hm1) gX6_count_X1_chosenPairs rfl (by decide +kernel) (by decide) ob_3 (Nat.le_of_ble_eq_true rfl) dX6_count_87 (fun hz87 => ?_)
      refine g_rg (fun hR87 => ?_)
      exact g_iret X hr (by first | exact hR87 _ _ | exact hR80 _ _ | exact hR0 _ _ | assumption | (unfold InR; omega)) ⟨by rw [if_neg (by omega), if_neg (by omega), if_neg (by omega), if_pos (by omega)]; exact ec, hp80.qq hT5⟩ dX6_count_90
    · skip
      refine g_tin (tgt := 91) X (by first | exact hR0 _ _ | assumption | (unfold InR; omega)) dX6_count_1 (by omega) (by omega) (by rw [g1]; try rfl) (by decide) ?_
      refine g_aload0 X dX6_count_91 ?_
      refine gf_6_prices X i6 (by decide +kernel) dX6_count_92 ?_
      refine g_V0 X (k_X2_findLeast E hT0) gX6_count_X2_findLeast rfl (by decide +kernel) (by decide) ob_6 (Nat.le_of_ble_eq_true rfl) dX6_count_95 (fun σ95 hp95 => ?_)
      refine g_rg (fun hR95 => ?_)
      have hT1 := hp95.1.tok hT0
      have hPL := hp95.pl hT0
      obtain ⟨e0, e1, e2, e3⟩ := hp95.at hT0
      have et := tPP_of hT0 hp95
      refine g_aload0 X dX6_count_98 ?_
      refine gf_6_prices X i6 (by decide +kernel) dX6_count_99 ?_
      refine g_F0 X (k_X2_tightPairs E hT1 hPL) gX6_count_X2_tightPairs rfl (by decide +kernel) (by decide) ob_6 (Nat.le_of_ble_eq_true rfl) dX6_count_102 (fun hz102 => ?_)
      refine g_rg (fun hR102 => ?_)
      exact g_iret X hr (by first | exact hR102 _ _ | exact hR95 _ _ | exact hR0 _ _ | assumption | (unfold InR; omega)) ⟨by rw [if_neg (by omega), if_neg (by omega), if_neg (by omega), if_neg (by omega), if_pos (by omega)]; exact et, hp95.1.qq hT5⟩ dX6_count_105
    · skip
      refine g_tin (tgt := 106) X (by first | exact hR0 _ _ | assumption | (unfold InR; omega)) dX6_count_1 (by omega) (by omega) (by rw [g1]; try rfl) (by decide) ?_
      refine g_aload0 X dX6_count_106 ?_
      refine gf_6_prices X i6 (by decide +kernel) dX6_count_107 ?_
      refine g_V0 X (k_X2_findLeast E hT0) gX6_count_X2_findLeast rfl (by decide +kernel) (by decide) ob_6 (Nat.le_of_ble_eq_true rfl) dX6_count_110 (fun σ110 hp110 => ?_)
      refine g_rg (fun hR110 => ?_)
      have hT1 := hp110.1.tok hT0
      have hPL := hp110.pl hT0
      obtain ⟨e0, e1, e2, e3⟩ := hp110.at hT0
      have el := sLP_of hT0 hp110
      refine g_aload0 X dX6_count_113 ?_
      refine gf_6_prices X i6 (by decide +kernel) dX6_count_114 ?_
      refine g_F0 X (k_X2_sumOfLeast E hT1 hPL) gX6_count_X2_sumOfLeast rfl (by decide +kernel) (by decide) ob_6 (Nat.le_of_ble_eq_true rfl) dX6_count_117 (fun hz117 => ?_)
      refine g_rg (fun hR117 => ?_)
      exact g_iret X hr (by first | exact hR117 _ _ | exact hR110 _ _ | exact hR0 _ _ | assumption | (unfold InR; omega)) ⟨by rw [if_neg (by omega), if_neg (by omega), if_neg (by omega), if_neg (by omega), if_neg (by omega), if_pos (by omega)]; exact el, hp110.1.qq hT5⟩ dX6_count_120
    · skip
      refine g_tin (tgt := 121) X (by first | exact hR0 _ _ | assumption | (unfold InR; omega)) dX6_count_1 (by omega) (by omega) (by rw [g1]; try rfl) (by decide) ?_
      refine g_aload0 X dX6_count_121 ?_
      refine gf_6_prices X i6 (by decide +kernel) dX6_count_122 ?_
      refine g_I0 X (k_X2_sumOfGreatest E hT0) gX6_count_X2_sumOfGreatest rfl (by decide +kernel) (by decide) ob_6 (Nat.le_of_ble_eq_true rfl) dX6_count_125 (fun z125 σ125 hz125 hp125 => ?_)
      refine g_rg (fun hR125 => ?_)
      exact g_iret X hr (by first | exact hR125 _ _ | exact hR0 _ _ | assumption | (unfold InR; omega)) ⟨by rw [if_neg (by omega), if_neg (by omega), if_neg (by omega), if_neg (by omega), if_neg (by omega), if_neg (by omega), if_pos (by omega)]; exact hp125.1, hp125.2.qq hT5⟩ dX6_count_128
    · skip
      refine g_tin (tgt := 129) X (by first | exact hR0 _ _ | assumption | (unfold InR; omega)) dX6_count_1 (by omega) (by omega) (by rw [g1]; try rfl) (by decide) ?_
      refine g_aload0 X dX6_count_129 ?_
      refine gf_6_history X i6 (by decide +kernel) dX6_count_130 ?_
      refine gf_0_size X i0 (by decide +kernel) dX6_count_133 ?_
      exact g_iret X hr (by first | exact hR0 _ _ | assumption | (unfold InR; omega)) ⟨by rw [if_neg (by omega), if_neg (by omega), if_neg (by omega), if_neg (by omega), if_neg (by omega), if_neg (by omega), if_neg (by omega), if_pos (by omega)], QQ.rf hT5⟩ dX6_count_136
    · skip
      refine g_tin (tgt := 137) X (by first | exact hR0 _ _ | assumption | (unfold InR; omega)) dX6_count_1 (by omega) (by omega) (by rw [g1]; try rfl) (by decide) ?_
      refine g_aload0 X dX6_count_137 ?_
      refine gf_6_text X i6 (by decide +kernel) dX6_count_138 ?_
      refine gf_5_length X i5 (by decide +kernel) dX6_count_141 ?_
      exact g_iret X hr (by first | exact hR0 _ _ | assumption | (unfold InR; omega)) ⟨by rw [if_neg (by omega), if_neg (by omega), if_neg (by omega), if_neg (by omega), if_neg (by omega), if_neg (by omega), if_neg (by omega), if_neg (by omega), if_pos (by omega)], QQ.rf hT5⟩ dX6_count_144
  · skip
    refine g_tout (tgt := 145) X (by first | exact hR0 _ _ | assumption | (unfold InR; omega)) dX6_count_1 (by omega) (by decide) ?_
    refine g_iconst X dX6_count_145 ?_
    exact g_iret X hr (by first | exact hR0 _ _ | assumption | (unfold InR; omega)) ⟨by rw [if_neg (by omega), if_neg (by omega), if_neg (by omega), if_neg (by omega), if_neg (by omega), if_neg (by omega), if_neg (by omega), if_neg (by omega), if_neg (by omega)], QQ.rf hT5⟩ dX6_count_146

set_option maxHeartbeats 4000000 in
set_option maxRecDepth 100000 in
theorem k_X6_fault (E0 : EV) {ad : Int → Nat} {σ : St} {x1 : Int} (hC : CI σ)(hx1 : InR x1) : MGE E0 yX6_fault wsX6_fault 6 131 ad σ [.ref (ad 0), .int (iI x1)] (PI (fun z σ' => z = (if 0 ≤ x1 ∧ x1 ≤ 1 then (if (rwR (σ 9) (σ 8 0)).2.2.1 = 0 then -4 else if x1 = 0 then (rwR (σ 9) (σ 8 0)).2.1 else (rwR (σ 9) (σ 8 0)).2.2.1) else -1) ∧ QQ σ σ')) := by
  refine MGE.of (cc := cX6_fault) (maxL := 2) (ret := (some .int)) (own := RX6) [some (.ref (ad 0)), some (.int (iI x1))] (by decide +kernel) rfl rfl (Nat.le_of_ble_eq_true rfl) rfl rfl (fun E X hr => ?_)
  have i3 : ∀ w ∈ wsX30, w ∈ wsX6_fault := by decide +kernel
  have i6 : ∀ w ∈ wsX60, w ∈ wsX6_fault := by decide +kernel
  refine g_rg (fun hR0 => ?_)
  have hT0 := hC.1 0 (by omega) (by omega)
  have hT5 := hC.1 5 (by omega) (by omega)
  have hm := hT0.1
  have hn := hT0.2.1
  refine g_iload1 X dX6_fault_0 ?_
  refine g_if_lt (tgt := 9) X (by first | exact hR0 _ _ | assumption | (unfold InR; omega)) dX6_fault_1 (by decide) (fun h1 => ?_) (fun h1 => ?_)
  · skip
    refine g_iconst X dX6_fault_9 ?_
    exact g_iret X hr (by first | exact hR0 _ _ | assumption | (unfold InR; omega)) ⟨(by repeat (first | rw [if_pos (by omega)] | rw [if_neg (by omega)]); all_goals omega), QQ.rf hT5⟩ dX6_fault_10
  · skip
    refine g_iload1 X dX6_fault_4 ?_
    refine g_iconst X dX6_fault_5 ?_
    refine g_icmp_le (tgt := 11) X (by first | exact hR0 _ _ | assumption | (unfold InR; omega)) (by first | exact hR0 _ _ | assumption | (unfold InR; omega)) dX6_fault_6 (by decide) (fun h6 => ?_) (fun h6 => ?_)
    · skip
      refine g_aload0 X dX6_fault_11 ?_
      refine gf_6_reader X i6 (by decide +kernel) dX6_fault_12 ?_
      refine g_V0 X (k_X3_readText E hC.2.2 hT5) gX6_fault_X3_readText rfl (by decide +kernel) (by decide) ob_10 (Nat.le_of_ble_eq_true rfl) dX6_fault_15 (fun σ15 hp15 => ?_)
      refine g_rg (fun hR15 => ?_)
      obtain ⟨t1, t2, t3, t4, t5⟩ := hp15
      have hq : QQ σ σ15 := ⟨fun q k h3 h4 h7 h10 h5 => t4 q k h10 (by omega), t3⟩
      refine g_aload0 X dX6_fault_18 ?_
      refine gf_6_reader X i6 (by decide +kernel) dX6_fault_19 ?_
      refine gf_3_reason X i3 (by decide +kernel) dX6_fault_22 ?_
      refine g_if_ne (tgt := 31) X (by first | exact hR15 _ _ | exact hR0 _ _ | assumption | (unfold InR; omega)) dX6_fault_25 (by decide) (fun h25 => ?_) (fun h25 => ?_)
      · skip
        refine g_iload1 X dX6_fault_31 ?_
        refine g_if_ne (tgt := 45) X (by first | exact hR15 _ _ | exact hR0 _ _ | assumption | (unfold InR; omega)) dX6_fault_32 (by decide) (fun h32 => ?_) (fun h32 => ?_)
        · skip
          refine g_aload0 X dX6_fault_45 ?_
          refine gf_6_reader X i6 (by decide +kernel) dX6_fault_46 ?_
          refine gf_3_reason X i3 (by decide +kernel) dX6_fault_49 ?_
          exact g_iret X hr (by first | exact hR15 _ _ | exact hR0 _ _ | assumption | (unfold InR; omega)) ⟨by rw [if_pos (by omega), if_neg (by omega)]; first | (rw [if_pos (by omega), t1]; done) | (rw [if_neg (by omega), t2]; done), hq⟩ dX6_fault_52
        · skip
          refine g_aload0 X dX6_fault_35 ?_
          refine gf_6_reader X i6 (by decide +kernel) dX6_fault_36 ?_
          refine gf_3_place X i3 (by decide +kernel) dX6_fault_39 ?_
          refine g_goto (tgt := 52) X dX6_fault_42 (by decide) ?_
          exact g_iret X hr (by first | exact hR15 _ _ | exact hR0 _ _ | assumption | (unfold InR; omega)) ⟨by rw [if_pos (by omega), if_neg (by omega)]; first | (rw [if_pos (by omega), t1]; done) | (rw [if_neg (by omega), t2]; done), hq⟩ dX6_fault_52
      · skip
        refine g_bipush X dX6_fault_28 (by decide +kernel) ?_
        exact g_iret X hr (by first | exact hR15 _ _ | exact hR0 _ _ | assumption | (unfold InR; omega)) ⟨by rw [if_pos (by omega), if_pos (by omega)], hq⟩ dX6_fault_30
    · skip
      refine g_iconst X dX6_fault_9 ?_
      exact g_iret X hr (by first | exact hR0 _ _ | assumption | (unfold InR; omega)) ⟨(by repeat (first | rw [if_pos (by omega)] | rw [if_neg (by omega)]); all_goals omega), QQ.rf hT5⟩ dX6_fault_10

set_option maxHeartbeats 4000000 in
set_option maxRecDepth 100000 in
theorem k_X6_read (E0 : EV) {ad : Int → Nat} {σ : St} (hC : CI σ) : MGE E0 yX6_read wsX6_read 6 131 ad σ [.ref (ad 0)] (PI (fun z σ' => ((rwR (σ 9) (σ 8 0)).2.2.1 ≠ 0 ∧ z = -2 ∧ QQ σ σ') ∨ ((rwR (σ 9) (σ 8 0)).2.2.1 = 0 ∧ ∃ σr : St, QQ σ σr ∧ σr (TB 5) 0 = (rwR (σ 9) (σ 8 0)).1 ∧ 1 ≤ (rwR (σ 9) (σ 8 0)).1 ∧ (rwR (σ 9) (σ 8 0)).1 ≤ 7 ∧ σr (TB 5) 1 = wiS (σ 9) (σ 8 0) ∧ RD (σ 9) (σ 8 0) σr (rwR (σ 9) (σ 8 0)).1 ∧ TOK (cpT (kp σr) 0 5) 0 ∧ z = RW (cpT (kp σr) 0 5) (AW (cpT (kp σr) 0 5)) 0 0 ∧ QQ (cpT (kp σr) 0 5) σ'))) := by
  refine MGE.of (cc := cX6_read) (maxL := 1) (ret := (some .int)) (own := RX6) [some (.ref (ad 0))] (by decide +kernel) rfl rfl (Nat.le_of_ble_eq_true rfl) rfl rfl (fun E X hr => ?_)
  have i3 : ∀ w ∈ wsX30, w ∈ wsX6_read := by decide +kernel
  have i6 : ∀ w ∈ wsX60, w ∈ wsX6_read := by decide +kernel
  refine g_rg (fun hR0 => ?_)
  have hT0 := hC.1 0 (by omega) (by omega)
  have hT5 := hC.1 5 (by omega) (by omega)
  have hm := hT0.1
  have hn := hT0.2.1
  refine g_aload0 X dX6_read_0 ?_
  refine gf_6_reader X i6 (by decide +kernel) dX6_read_1 ?_
  refine g_V0 X (k_X3_readText E hC.2.2 hT5) gX6_read_X3_readText rfl (by decide +kernel) (by decide) ob_10 (Nat.le_of_ble_eq_true rfl) dX6_read_4 (fun σ4 hp4 => ?_)
  refine g_rg (fun hR4 => ?_)
  obtain ⟨t1, t2, t3, t4, t5⟩ := hp4
  have hq : QQ σ σ4 := ⟨fun q k h3 h4 h7 h10 h5 => t4 q k h10 (by omega), t3⟩
  have hC4 := hC.of hq
  refine g_aload0 X dX6_read_7 ?_
  refine gf_6_reader X i6 (by decide +kernel) dX6_read_8 ?_
  refine gf_3_reason X i3 (by decide +kernel) dX6_read_11 ?_
  refine g_if_eq (tgt := 20) X (by first | exact hR4 _ _ | exact hR0 _ _ | assumption | (unfold InR; omega)) dX6_read_14 (by decide) (fun h14 => ?_) (fun h14 => ?_)
  · skip
    have hCk := hC4.kept
    have hTc : TOK (cpT (kp σ4) 0 5) 0 := (hCk.1 5 (by omega) (by omega)).cp
    have hT5c : TOK (cpT (kp σ4) 0 5) 5 := (hCk.1 5 (by omega) (by omega)).keep (fun q k a b => cpT_b.2.2.2 q k (by unfold TB at a b ⊢; omega))
    refine g_aload0 X dX6_read_20 ?_
    refine gf_6_history X i6 (by decide +kernel) dX6_read_21 ?_
    refine g_aload0 X dX6_read_24 ?_
    refine gf_6_table X i6 (by decide +kernel) dX6_read_25 ?_
    refine g_W1 X (k_X0_keep E hC4.2.1) gX6_read_X0_keep rfl (by decide +kernel) (by decide) ob_1 (Nat.le_of_ble_eq_true rfl) dX6_read_28 ?_
    refine g_rg (fun hR28 => ?_)
    refine g_aload0 X dX6_read_31 ?_
    refine gf_6_table X i6 (by decide +kernel) dX6_read_32 ?_
    refine g_aload0 X dX6_read_35 ?_
    refine gf_6_reader X i6 (by decide +kernel) dX6_read_36 ?_
    refine gf_3_found X i3 (by decide +kernel) dX6_read_39 ?_
    refine g_W1 X (k_X4_copyFrom E (by omega) (by omega)) gX6_read_X4_copyFrom rfl (by decide +kernel) (by decide) (ob_TB (by omega)) (Nat.le_of_ble_eq_true rfl) dX6_read_42 ?_
    refine g_rg (fun hR42 => ?_)
    refine g_aload0 X dX6_read_45 ?_
    refine gf_6_plans X i6 (by decide +kernel) dX6_read_46 ?_
    refine g_I0 X (k_X1_leastTotal E hTc) gX6_read_X1_leastTotal rfl (by decide +kernel) (by decide) ob_3 (Nat.le_of_ble_eq_true rfl) dX6_read_49 (fun z49 σ49 hz49 hp49 => ?_)
    refine g_rg (fun hR49 => ?_)
    exact g_iret X hr (by first | exact hR49 _ _ | exact hR42 _ _ | exact hR28 _ _ | exact hR4 _ _ | exact hR0 _ _ | assumption | (unfold InR; omega)) (Or.inr ⟨by omega, σ4, hq, (t5 (by omega)).2.1, (t5 (by omega)).2.2.1, (t5 (by omega)).2.2.2.1, (t5 (by omega)).2.2.2.2.1, (t5 (by omega)).2.2.2.2.2, hTc, hp49.1, hp49.2.1.qq hT5c⟩) dX6_read_52
  · skip
    refine g_bipush X dX6_read_17 (by decide +kernel) ?_
    exact g_iret X hr (by first | exact hR4 _ _ | exact hR0 _ _ | assumption | (unfold InR; omega)) (Or.inl ⟨by rw [← t2]; omega, rfl, hq⟩) dX6_read_19
end
