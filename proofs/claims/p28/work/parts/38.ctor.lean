def qC (P : kS → kI → Prop) : kP := fun v σ I => v = none ∧ P σ I
abbrev kZ : Nat → Int32 := fun _ => 0
abbrev kNo : Nat → Option Nat := fun _ => none
theorem w_callI_C {g : kG} {μ : kM} {R : Room} {E : State → Prop} {Q : kP} {n : Nat × Nat} {σ : kS} {I : kI} {pc : Nat} {loc : List (Option Value)} {st : List Value} {μ' : kM} {R' : Room} {as stk : List Value} {b i : Nat} {P : kS → kI → Prop} (hct : ct g μ' R' (.ref b :: as) σ I (qC P)) (hr : μ'.2.2.2 = none) (hok : kOK μ' as.length) (hnm : μ'.1.name = "<init>") (hin : Cond.instanceMethod μ'.1 ∈ tblG) (hl : Cond.methodLink μ.1.cls i μ'.1 ∈ tblG) (hR : (R'.frames + 1 ≤ R.frames ∧ 8 + (μ'.2.2.1 + 11) + R'.locals ≤ R.locals) ∧ n.1 + R'.cells ≤ R.cells ∧ n.2 + R'.slots ≤ R.slots) (hstk : stk = as.reverse ++ .ref b :: st) (hW : (st.map fun v => v.category).sum ≤ 8) (hd : decode μ.2.1 pc = .ok (.invokespecial i, 3))
    (kk : ∀ N sh G I0, P (N, sh, G) I0 → wp g μ R E Q (n.1 + R'.cells, n.2 + R'.slots) (N, sh, G) I0 (pc + 3) loc st) : wp g μ R E Q n σ I pc loc stk := by
  refine w_callI hct hr hok hnm hin hl hR hstk hW hd (fun v σ' I' hq => ?_)
  obtain ⟨rfl, hp⟩ := hq
  obtain ⟨N, sh, G⟩ := σ'
  exact kk N sh G I' hp
theorem w_callIN_C {g : kG} {μ : kM} {R : Room} {E : State → Prop} {Q : kP} {n : Nat × Nat} {σ : kS} {I : kI} {pc : Nat} {loc : List (Option Value)} {st : List Value} {μ' : kM} {R' : Room} {as stk : List Value} {b i : Nat} {host : String} {P : kS → kI → Prop} (hct : ct g μ' R' (.ref b :: as) σ I (qC P)) (hr : μ'.2.2.2 = none) (hok : kOK μ' as.length) (hnm : μ'.1.name = "<init>") (hin : Cond.instanceMethod μ'.1 ∈ tblG) (hl : Cond.methodLinkNest μ.1.cls i μ'.1 host ∈ nestWs) (hR : (R'.frames + 1 ≤ R.frames ∧ 8 + (μ'.2.2.1 + 11) + R'.locals ≤ R.locals) ∧ n.1 + R'.cells ≤ R.cells ∧ n.2 + R'.slots ≤ R.slots) (hstk : stk = as.reverse ++ .ref b :: st) (hW : (st.map fun v => v.category).sum ≤ 8) (hd : decode μ.2.1 pc = .ok (.invokespecial i, 3))
    (kk : ∀ N sh G I0, P (N, sh, G) I0 → wp g μ R E Q (n.1 + R'.cells, n.2 + R'.slots) (N, sh, G) I0 (pc + 3) loc st) : wp g μ R E Q n σ I pc loc stk := by
  refine w_callIN hct hr hok hnm hin hl hR hstk hW hd (fun v σ' I' hq => ?_)
  obtain ⟨rfl, hp⟩ := hq
  obtain ⟨N, sh, G⟩ := σ'
  exact kk N sh G I' hp
set_option maxHeartbeats 4000000 in
set_option maxRecDepth 100000 in
theorem c_Hop_init {g : kG} {N b : Nat} {sh : Nat → Nat × Nat} {G : Nat → Nat → Option Nat} {I : kI} (hb : kB g ≤ b ∧ b < N) (hs : sh b = (5, 0)) : ct g mX5_init ⟨1, 2, 12, 20⟩ [.ref b] (N, sh, G) I (qC (fun σ1 I1 => σ1 = (N + 2, (va_up (va_up sh N (100, 6)) (N + 1) (100, 6)), (kgst (va_up (kgst (va_up G N kNo) b 0 (some N)) (N + 1) kNo) b 1 (some (N + 1)))) ∧ I1 = (va_up (va_up I N kZ) (N + 1) kZ))) := by
  refine ct_of pn5 rfl (Nat.le_of_ble_eq_true rfl) ok_X5_init.1 trivial ?_
  show wp _ _ _ _ _ _ _ _ 0 [some (.ref b)] []
  refine w_aload_0 (pc := 0) dX5_init_0 ?_
  refine w_objInit (pc := 1) t39 t26 t27 ⟨Nat.le_of_ble_eq_true rfl, Nat.le_of_ble_eq_true rfl⟩ dX5_init_1 ?_
  refine w_aload_0 (pc := 4) dX5_init_4 ?_
  refine w_bipush (pc := 5) (v := 6) dX5_init_5 (by decide) ?_
  refine w_newai (pc := 7) (N := N) (k := 6) rfl (by decide) t60 ⟨Nat.le_of_ble_eq_true rfl, Nat.le_of_ble_eq_true rfl⟩ dX5_init_7 ?_
  refine w_putFR (pc := 9) (x := some N) kc5 0 (by have := hb; (try dsimp only); omega) (by first | exact hs | (dsimp only; (repeat rw [va_up_ne _ _ (by omega)]); exact hs)) rfl t40 rfl rfl rfl (tyX5_ok 0 (by decide)) rfl rfl dX5_init_9 ?_
  refine w_aload_0 (pc := 12) dX5_init_12 ?_
  refine w_bipush (pc := 13) (v := 6) dX5_init_13 (by decide) ?_
  refine w_newai (pc := 15) (N := (N + 1)) (k := 6) rfl (by decide) t60 ⟨Nat.le_of_ble_eq_true rfl, Nat.le_of_ble_eq_true rfl⟩ dX5_init_15 ?_
  refine w_putFR (pc := 17) (x := some ((N + 1))) kc5 1 (by have := hb; (try dsimp only); omega) (by first | exact hs | (dsimp only; (repeat rw [va_up_ne _ _ (by omega)]); exact hs)) rfl t43 rfl rfl rfl (tyX5_ok 1 (by decide)) rfl rfl dX5_init_17 ?_
  refine w_vret (pc := 20) rfl ⟨Nat.le_refl _, Nat.le_refl _⟩ dX5_init_20 ?_
  exact ⟨rfl, rfl, rfl⟩
set_option maxHeartbeats 4000000 in
set_option maxRecDepth 100000 in
theorem c_Belt_init {g : kG} {N b : Nat} {sh : Nat → Nat × Nat} {G : Nat → Nat → Option Nat} {I : kI} (hb : kB g ≤ b ∧ b < N) (hs : sh b = (1, 0)) : ct g mX1_init ⟨1, 1, 48, 20⟩ [.ref b] (N, sh, G) I (qC (fun σ1 I1 => σ1 = (N + 1, (va_up sh N (100, 48)), (kgst (va_up G N kNo) b 0 (some N))) ∧ I1 = (va_up I N kZ))) := by
  refine ct_of pn1 rfl (Nat.le_of_ble_eq_true rfl) ok_X1_init.1 trivial ?_
  show wp _ _ _ _ _ _ _ _ 0 [some (.ref b)] []
  refine w_aload_0 (pc := 0) dX1_init_0 ?_
  refine w_objInit (pc := 1) t66 t26 t27 ⟨Nat.le_of_ble_eq_true rfl, Nat.le_of_ble_eq_true rfl⟩ dX1_init_1 ?_
  refine w_aload_0 (pc := 4) dX1_init_4 ?_
  refine w_bipush (pc := 5) (v := 48) dX1_init_5 (by decide) ?_
  refine w_newai (pc := 7) (N := N) (k := 48) rfl (by decide) t60 ⟨Nat.le_of_ble_eq_true rfl, Nat.le_of_ble_eq_true rfl⟩ dX1_init_7 ?_
  refine w_putFR (pc := 9) (x := some N) kc1 0 (by have := hb; (try dsimp only); omega) (by first | exact hs | (dsimp only; (repeat rw [va_up_ne _ _ (by omega)]); exact hs)) rfl t67 rfl rfl rfl (tyX1_ok 0 (by decide)) rfl rfl dX1_init_9 ?_
  refine w_vret (pc := 12) rfl ⟨Nat.le_refl _, Nat.le_refl _⟩ dX1_init_12 ?_
  exact ⟨rfl, rfl, rfl⟩
set_option maxHeartbeats 4000000 in
set_option maxRecDepth 100000 in
theorem c_Bins_init {g : kG} {N b : Nat} {sh : Nat → Nat × Nat} {G : Nat → Nat → Option Nat} {I : kI} (hb : kB g ≤ b ∧ b < N) (hs : sh b = (2, 0)) : ct g mX2_init ⟨1, 3, 48, 20⟩ [.ref b] (N, sh, G) I (qC (fun σ1 I1 => σ1 = (N + 3, (va_up (va_up (va_up sh N (100, 32)) (N + 1) (100, 8)) (N + 2) (100, 8)), (kgst (va_up (kgst (va_up (kgst (va_up G N kNo) b 0 (some N)) (N + 1) kNo) b 1 (some (N + 1))) (N + 2) kNo) b 2 (some (N + 2)))) ∧ I1 = (va_up (va_up (va_up I N kZ) (N + 1) kZ) (N + 2) kZ))) := by
  refine ct_of pn2 rfl (Nat.le_of_ble_eq_true rfl) ok_X2_init.1 trivial ?_
  show wp _ _ _ _ _ _ _ _ 0 [some (.ref b)] []
  refine w_aload_0 (pc := 0) dX2_init_0 ?_
  refine w_objInit (pc := 1) t84 t26 t27 ⟨Nat.le_of_ble_eq_true rfl, Nat.le_of_ble_eq_true rfl⟩ dX2_init_1 ?_
  refine w_aload_0 (pc := 4) dX2_init_4 ?_
  refine w_bipush (pc := 5) (v := 32) dX2_init_5 (by decide) ?_
  refine w_newai (pc := 7) (N := N) (k := 32) rfl (by decide) t60 ⟨Nat.le_of_ble_eq_true rfl, Nat.le_of_ble_eq_true rfl⟩ dX2_init_7 ?_
  refine w_putFR (pc := 9) (x := some N) kc2 0 (by have := hb; (try dsimp only); omega) (by first | exact hs | (dsimp only; (repeat rw [va_up_ne _ _ (by omega)]); exact hs)) rfl t85 rfl rfl rfl (tyX2_ok 0 (by decide)) rfl rfl dX2_init_9 ?_
  refine w_aload_0 (pc := 12) dX2_init_12 ?_
  refine w_bipush (pc := 13) (v := 8) dX2_init_13 (by decide) ?_
  refine w_newai (pc := 15) (N := (N + 1)) (k := 8) rfl (by decide) t60 ⟨Nat.le_of_ble_eq_true rfl, Nat.le_of_ble_eq_true rfl⟩ dX2_init_15 ?_
  refine w_putFR (pc := 17) (x := some ((N + 1))) kc2 1 (by have := hb; (try dsimp only); omega) (by first | exact hs | (dsimp only; (repeat rw [va_up_ne _ _ (by omega)]); exact hs)) rfl t87 rfl rfl rfl (tyX2_ok 1 (by decide)) rfl rfl dX2_init_17 ?_
  refine w_aload_0 (pc := 20) dX2_init_20 ?_
  refine w_bipush (pc := 21) (v := 8) dX2_init_21 (by decide) ?_
  refine w_newai (pc := 23) (N := (N + 2)) (k := 8) rfl (by decide) t60 ⟨Nat.le_of_ble_eq_true rfl, Nat.le_of_ble_eq_true rfl⟩ dX2_init_23 ?_
  refine w_putFR (pc := 25) (x := some ((N + 2))) kc2 2 (by have := hb; (try dsimp only); omega) (by first | exact hs | (dsimp only; (repeat rw [va_up_ne _ _ (by omega)]); exact hs)) rfl t90 rfl rfl rfl (tyX2_ok 2 (by decide)) rfl rfl dX2_init_25 ?_
  refine w_vret (pc := 28) rfl ⟨Nat.le_refl _, Nat.le_refl _⟩ dX2_init_28 ?_
  exact ⟨rfl, rfl, rfl⟩
set_option maxHeartbeats 4000000 in
set_option maxRecDepth 100000 in
theorem c_Scale_init {g : kG} {N b : Nat} {sh : Nat → Nat × Nat} {G : Nat → Nat → Option Nat} {I : kI} (hb : kB g ≤ b ∧ b < N) (hs : sh b = (8, 0)) : ct g mX8_init ⟨1, 0, 0, 20⟩ [.ref b] (N, sh, G) I (qC (fun σ1 I1 => σ1 = (N, sh, G) ∧ I1 = (kst I b 4 1000))) := by
  refine ct_of pn8 rfl (Nat.le_of_ble_eq_true rfl) ok_X8_init.1 trivial ?_
  show wp _ _ _ _ _ _ _ _ 0 [some (.ref b)] []
  refine w_aload_0 (pc := 0) dX8_init_0 ?_
  refine w_objInit (pc := 1) t109 t26 t27 ⟨Nat.le_of_ble_eq_true rfl, Nat.le_of_ble_eq_true rfl⟩ dX8_init_1 ?_
  refine w_aload_0 (pc := 4) dX8_init_4 ?_
  refine w_sipush (pc := 5) (v := 1000) dX8_init_5 (by decide) ?_
  refine w_putI (pc := 8) kc8 4 (by have := hb; (try dsimp only); omega) (by first | exact hs | (dsimp only; (repeat rw [va_up_ne _ _ (by omega)]); exact hs)) rfl t119 rfl (tyX8_ok 4 (by decide)) rfl rfl dX8_init_8 ?_
  refine w_vret (pc := 11) rfl ⟨Nat.le_refl _, Nat.le_refl _⟩ dX8_init_11 ?_
  exact ⟨rfl, rfl, rfl⟩
set_option maxHeartbeats 4000000 in
set_option maxRecDepth 100000 in
theorem c_Acc_init {g : kG} {N b : Nat} {sh : Nat → Nat × Nat} {G : Nat → Nat → Option Nat} {I : kI} (hb : kB g ≤ b ∧ b < N) (hs : sh b = (0, 0)) : ct g mX0_init ⟨1, 3, 20, 20⟩ [.ref b] (N, sh, G) I (qC (fun σ1 I1 => σ1 = (N + 3, (va_up (va_up (va_up sh N (100, 8)) (N + 1) (100, 8)) (N + 2) (100, 4)), (kgst (va_up (kgst (va_up (kgst (va_up G N kNo) b 0 (some N)) (N + 1) kNo) b 1 (some (N + 1))) (N + 2) kNo) b 2 (some (N + 2)))) ∧ I1 = (kst (va_up (va_up (va_up I N kZ) (N + 1) kZ) (N + 2) kZ) b 3 1))) := by
  refine ct_of pn0 rfl (Nat.le_of_ble_eq_true rfl) ok_X0_init.1 trivial ?_
  show wp _ _ _ _ _ _ _ _ 0 [some (.ref b)] []
  refine w_aload_0 (pc := 0) dX0_init_0 ?_
  refine w_objInit (pc := 1) t138 t26 t27 ⟨Nat.le_of_ble_eq_true rfl, Nat.le_of_ble_eq_true rfl⟩ dX0_init_1 ?_
  refine w_aload_0 (pc := 4) dX0_init_4 ?_
  refine w_bipush (pc := 5) (v := 8) dX0_init_5 (by decide) ?_
  refine w_newai (pc := 7) (N := N) (k := 8) rfl (by decide) t60 ⟨Nat.le_of_ble_eq_true rfl, Nat.le_of_ble_eq_true rfl⟩ dX0_init_7 ?_
  refine w_putFR (pc := 9) (x := some N) kc0 0 (by have := hb; (try dsimp only); omega) (by first | exact hs | (dsimp only; (repeat rw [va_up_ne _ _ (by omega)]); exact hs)) rfl t139 rfl rfl rfl (tyX0_ok 0 (by decide)) rfl rfl dX0_init_9 ?_
  refine w_aload_0 (pc := 12) dX0_init_12 ?_
  refine w_bipush (pc := 13) (v := 8) dX0_init_13 (by decide) ?_
  refine w_newai (pc := 15) (N := (N + 1)) (k := 8) rfl (by decide) t60 ⟨Nat.le_of_ble_eq_true rfl, Nat.le_of_ble_eq_true rfl⟩ dX0_init_15 ?_
  refine w_putFR (pc := 17) (x := some ((N + 1))) kc0 1 (by have := hb; (try dsimp only); omega) (by first | exact hs | (dsimp only; (repeat rw [va_up_ne _ _ (by omega)]); exact hs)) rfl t141 rfl rfl rfl (tyX0_ok 1 (by decide)) rfl rfl dX0_init_17 ?_
  refine w_aload_0 (pc := 20) dX0_init_20 ?_
  refine w_iconst (pc := 21) (v := 4) dX0_init_21 (by decide) ?_
  refine w_newai (pc := 22) (N := (N + 2)) (k := 4) rfl (by decide) t60 ⟨Nat.le_of_ble_eq_true rfl, Nat.le_of_ble_eq_true rfl⟩ dX0_init_22 ?_
  refine w_putFR (pc := 24) (x := some ((N + 2))) kc0 2 (by have := hb; (try dsimp only); omega) (by first | exact hs | (dsimp only; (repeat rw [va_up_ne _ _ (by omega)]); exact hs)) rfl t143 rfl rfl rfl (tyX0_ok 2 (by decide)) rfl rfl dX0_init_24 ?_
  refine w_aload_0 (pc := 27) dX0_init_27 ?_
  refine w_iconst (pc := 28) (v := 1) dX0_init_28 (by decide) ?_
  refine w_putI (pc := 29) kc0 3 (by have := hb; (try dsimp only); omega) (by first | exact hs | (dsimp only; (repeat rw [va_up_ne _ _ (by omega)]); exact hs)) rfl t145 rfl (tyX0_ok 3 (by decide)) rfl rfl dX0_init_29 ?_
  refine w_vret (pc := 32) rfl ⟨Nat.le_refl _, Nat.le_refl _⟩ dX0_init_32 ?_
  exact ⟨rfl, rfl, rfl⟩
set_option maxHeartbeats 4000000 in
set_option maxRecDepth 100000 in
theorem c_Cmd_init {g : kG} {N b : Nat} {sh : Nat → Nat × Nat} {G : Nat → Nat → Option Nat} {I : kI} (hb : kB g ≤ b ∧ b < N) (hs : sh b = (3, 0)) : ct g mX3_init ⟨1, 0, 0, 20⟩ [.ref b] (N, sh, G) I (qC (fun σ1 I1 => σ1 = (N, sh, G) ∧ I1 = I)) := by
  refine ct_of pn3 rfl (Nat.le_of_ble_eq_true rfl) ok_X3_init.1 trivial ?_
  show wp _ _ _ _ _ _ _ _ 0 [some (.ref b)] []
  refine w_aload_0 (pc := 0) dX3_init_0 ?_
  refine w_objInit (pc := 1) t277 t26 t27 ⟨Nat.le_of_ble_eq_true rfl, Nat.le_of_ble_eq_true rfl⟩ dX3_init_1 ?_
  refine w_vret (pc := 4) rfl ⟨Nat.le_refl _, Nat.le_refl _⟩ dX3_init_4 ?_
  exact ⟨rfl, rfl, rfl⟩
set_option maxHeartbeats 4000000 in
set_option maxRecDepth 100000 in
theorem c_Text_init {g : kG} {N b : Nat} {sh : Nat → Nat × Nat} {G : Nat → Nat → Option Nat} {I : kI} (hb : kB g ≤ b ∧ b < N) (hs : sh b = (9, 0)) : ct g mX9_init ⟨1, 1, 60, 20⟩ [.ref b] (N, sh, G) I (qC (fun σ1 I1 => σ1 = (N + 1, (va_up sh N (101, 60)), (kgst (va_up G N kNo) b 0 (some N))) ∧ I1 = (va_up I N kZ))) := by
  refine ct_of pn9 rfl (Nat.le_of_ble_eq_true rfl) ok_X9_init.1 trivial ?_
  show wp _ _ _ _ _ _ _ _ 0 [some (.ref b)] []
  refine w_aload_0 (pc := 0) dX9_init_0 ?_
  refine w_objInit (pc := 1) t257 t26 t27 ⟨Nat.le_of_ble_eq_true rfl, Nat.le_of_ble_eq_true rfl⟩ dX9_init_1 ?_
  refine w_aload_0 (pc := 4) dX9_init_4 ?_
  refine w_bipush (pc := 5) (v := 60) dX9_init_5 (by decide) ?_
  refine w_newac (pc := 7) (N := N) (k := 60) rfl (by decide) t265 ⟨Nat.le_of_ble_eq_true rfl, Nat.le_of_ble_eq_true rfl⟩ dX9_init_7 ?_
  refine w_putFR (pc := 9) (x := some N) kc9 0 (by have := hb; (try dsimp only); omega) (by first | exact hs | (dsimp only; (repeat rw [va_up_ne _ _ (by omega)]); exact hs)) rfl t258 rfl rfl rfl (tyX9_ok 0 (by decide)) rfl rfl dX9_init_9 ?_
  refine w_vret (pc := 12) rfl ⟨Nat.le_refl _, Nat.le_refl _⟩ dX9_init_12 ?_
  exact ⟨rfl, rfl, rfl⟩

