theorem nbool {x : Int32} (h : x = 0 ∨ x = 1) : narrow .boolean (.int x) = .int x := by rcases h with rfl | rfl <;> decide
theorem fbool {x : Int32} (h : x = 0 ∨ x = 1) : fits .boolean (.int x) = true := by rcases h with rfl | rfl <;> decide
theorem cpy_in {f h : Nat → Int32} {n j : Nat} (hj : j < n) : va_cpy f h 0 0 n j = f j := by simp [va_cpy, hj]
set_option maxHeartbeats 4000000 in
set_option maxRecDepth 100000 in
theorem c_Hop_copyFrom {g : kG} {σ : kS} {I : kI} {d0 d1 d2 e0 e1 e2 : Nat} (hD : sHop g σ d0 d1 d2) (hE : sHop g σ e0 e1 e2) (hd : d2 < e0 ∨ e2 < d0)  : ct g mX5_copyFrom ⟨2, 0, 0, 47⟩ [.ref d0, .ref e0] σ I (qEV σ (fun I1 => (∀ b, b ≠ d0 → b ≠ d1 → b ≠ d2 → I1 b = I b) ∧ I1 d0 2 = I e0 2 ∧ I1 d0 3 = I e0 3 ∧ (∀ j, j < 6 → I1 d1 j = I e1 j) ∧ (∀ j, j < 6 → I1 d2 j = I e2 j))) := by
  refine ct_of pn5 rfl (Nat.le_of_ble_eq_true rfl) ok_X5_copyFrom.1 trivial ?_
  show wp _ _ _ _ _ _ _ _ 0 [some (.ref d0), some (.ref e0)] []
  refine w_aload_0 (pc := 0) dX5_copyFrom_0 ?_
  refine w_getR (pc := 1) (b := d1) kc5 0 hD.1 hD.2.1 rfl hD.2.2.2.2.2.2.1 t40 dX5_copyFrom_1 ?_
  refine w_aload_1 (pc := 4) dX5_copyFrom_4 ?_
  refine w_getR (pc := 5) (b := e1) kc5 0 hE.1 hE.2.1 rfl hE.2.2.2.2.2.2.1 t40 dX5_copyFrom_5 ?_
  refine w_callN_V (pc := 8) (c_copyInto hD.2.2.1 hD.2.2.2.1 hE.2.2.1 hE.2.2.2.1 (by decide)) ok_X10_copyInto t159 n388 ⟨Nat.le_of_ble_eq_true rfl, Nat.le_of_ble_eq_true rfl⟩ ⟨rfl, rfl⟩ ⟨Nat.le_refl _, Nat.le_refl _⟩ rfl (Nat.le_of_ble_eq_true rfl) dX5_copyFrom_8 ?_
  refine w_aload_0 (pc := 11) dX5_copyFrom_11 ?_
  refine w_getR (pc := 12) (b := d2) kc5 1 hD.1 hD.2.1 rfl hD.2.2.2.2.2.2.2.1 t43 dX5_copyFrom_12 ?_
  refine w_aload_1 (pc := 15) dX5_copyFrom_15 ?_
  refine w_getR (pc := 16) (b := e2) kc5 1 hE.1 hE.2.1 rfl hE.2.2.2.2.2.2.2.1 t43 dX5_copyFrom_16 ?_
  refine w_callN_V (pc := 19) (c_copyInto hD.2.2.2.2.1 hD.2.2.2.2.2.1 hE.2.2.2.2.1 hE.2.2.2.2.2.1 (by decide)) ok_X10_copyInto t159 n388 ⟨Nat.le_of_ble_eq_true rfl, Nat.le_of_ble_eq_true rfl⟩ ⟨rfl, rfl⟩ ⟨Nat.le_refl _, Nat.le_refl _⟩ rfl (Nat.le_of_ble_eq_true rfl) dX5_copyFrom_19 ?_
  refine w_aload_0 (pc := 22) dX5_copyFrom_22 ?_
  refine w_aload_1 (pc := 23) dX5_copyFrom_23 ?_
  refine w_getI (pc := 24) kc5 2 hE.1 hE.2.1 rfl t46 dX5_copyFrom_24 ?_
  refine w_putI (pc := 27) kc5 2 hD.1 hD.2.1 rfl t46 rfl (tyX5_ok 2 (by decide)) rfl rfl dX5_copyFrom_27 ?_
  refine w_aload_0 (pc := 30) dX5_copyFrom_30 ?_
  refine w_aload_1 (pc := 31) dX5_copyFrom_31 ?_
  refine w_getI (pc := 32) kc5 3 hE.1 hE.2.1 rfl t49 dX5_copyFrom_32 ?_
  refine w_putI (pc := 35) kc5 3 hD.1 hD.2.1 rfl t49 rfl (tyX5_ok 3 (by decide)) rfl rfl dX5_copyFrom_35 ?_
  refine w_vret (pc := 38) rfl ⟨Nat.le_refl _, Nat.le_refl _⟩ dX5_copyFrom_38 ?_
  have ld0 := hD.2.2.2.2.2.2.2.2.1
  have le0 := hE.2.2.2.2.2.2.2.2.1
  have ld1 := hD.2.2.2.2.2.2.2.2.2
  have le1 := hE.2.2.2.2.2.2.2.2.2
  have q_d0_e0 : d0 ≠ e0 := by omega
  have q_d0_e1 : d0 ≠ e1 := by omega
  have q_d0_d1 : d0 ≠ d1 := by omega
  have q_d0_e2 : d0 ≠ e2 := by omega
  have q_d0_d2 : d0 ≠ d2 := by omega
  have q_d1_e0 : d1 ≠ e0 := by omega
  have q_d1_e1 : d1 ≠ e1 := by omega
  have q_d1_e2 : d1 ≠ e2 := by omega
  have q_d1_d2 : d1 ≠ d2 := by omega
  have q_d2_e0 : d2 ≠ e0 := by omega
  have q_d2_e1 : d2 ≠ e1 := by omega
  have q_d2_e2 : d2 ≠ e2 := by omega
  refine ⟨rfl, rfl, fun b z0 z1 z2 => ?_, ?_, ?_, fun j hj => ?_, fun j hj => ?_⟩
  · simp [kst, va_up, z0, z1, z2]
  · simp [kst, va_up, upd, q_d0_e0, q_d0_e0.symm, q_d0_e1, q_d0_e1.symm, q_d0_d1, q_d0_d1.symm, q_d0_e2, q_d0_e2.symm, q_d0_d2, q_d0_d2.symm, q_d1_e0, q_d1_e0.symm, q_d1_e1, q_d1_e1.symm, q_d1_e2, q_d1_e2.symm, q_d1_d2, q_d1_d2.symm, q_d2_e0, q_d2_e0.symm, q_d2_e1, q_d2_e1.symm, q_d2_e2, q_d2_e2.symm]
  · simp [kst, va_up, upd, q_d0_e0, q_d0_e0.symm, q_d0_e1, q_d0_e1.symm, q_d0_d1, q_d0_d1.symm, q_d0_e2, q_d0_e2.symm, q_d0_d2, q_d0_d2.symm, q_d1_e0, q_d1_e0.symm, q_d1_e1, q_d1_e1.symm, q_d1_e2, q_d1_e2.symm, q_d1_d2, q_d1_d2.symm, q_d2_e0, q_d2_e0.symm, q_d2_e1, q_d2_e1.symm, q_d2_e2, q_d2_e2.symm]
  · simp [kst, va_up, upd, q_d0_e0, q_d0_e0.symm, q_d0_e1, q_d0_e1.symm, q_d0_d1, q_d0_d1.symm, q_d0_e2, q_d0_e2.symm, q_d0_d2, q_d0_d2.symm, q_d1_e0, q_d1_e0.symm, q_d1_e1, q_d1_e1.symm, q_d1_e2, q_d1_e2.symm, q_d1_d2, q_d1_d2.symm, q_d2_e0, q_d2_e0.symm, q_d2_e1, q_d2_e1.symm, q_d2_e2, q_d2_e2.symm, va_cpy, hj]
  · simp [kst, va_up, upd, q_d0_e0, q_d0_e0.symm, q_d0_e1, q_d0_e1.symm, q_d0_d1, q_d0_d1.symm, q_d0_e2, q_d0_e2.symm, q_d0_d2, q_d0_d2.symm, q_d1_e0, q_d1_e0.symm, q_d1_e1, q_d1_e1.symm, q_d1_e2, q_d1_e2.symm, q_d1_d2, q_d1_d2.symm, q_d2_e0, q_d2_e0.symm, q_d2_e1, q_d2_e1.symm, q_d2_e2, q_d2_e2.symm, va_cpy, hj]
set_option maxHeartbeats 4000000 in
set_option maxRecDepth 100000 in
theorem c_Belt_copyFrom {g : kG} {σ : kS} {I : kI} {d0 d1 e0 e1 : Nat} (hD : sBelt g σ d0 d1) (hE : sBelt g σ e0 e1) (hd : d1 < e0 ∨ e1 < d0)  : ct g mX1_copyFrom ⟨2, 0, 0, 47⟩ [.ref d0, .ref e0] σ I (qEV σ (fun I1 => (∀ b, b ≠ d0 → b ≠ d1 → I1 b = I b) ∧ I1 d0 1 = I e0 1 ∧ I1 d0 2 = I e0 2 ∧ (∀ j, j < 48 → I1 d1 j = I e1 j))) := by
  refine ct_of pn1 rfl (Nat.le_of_ble_eq_true rfl) ok_X1_copyFrom.1 trivial ?_
  show wp _ _ _ _ _ _ _ _ 0 [some (.ref d0), some (.ref e0)] []
  refine w_aload_0 (pc := 0) dX1_copyFrom_0 ?_
  refine w_getR (pc := 1) (b := d1) kc1 0 hD.1 hD.2.1 rfl hD.2.2.2.2.1 t67 dX1_copyFrom_1 ?_
  refine w_aload_1 (pc := 4) dX1_copyFrom_4 ?_
  refine w_getR (pc := 5) (b := e1) kc1 0 hE.1 hE.2.1 rfl hE.2.2.2.2.1 t67 dX1_copyFrom_5 ?_
  refine w_callN_V (pc := 8) (c_copyInto hD.2.2.1 hD.2.2.2.1 hE.2.2.1 hE.2.2.2.1 (by decide)) ok_X10_copyInto t159 n393 ⟨Nat.le_of_ble_eq_true rfl, Nat.le_of_ble_eq_true rfl⟩ ⟨rfl, rfl⟩ ⟨Nat.le_refl _, Nat.le_refl _⟩ rfl (Nat.le_of_ble_eq_true rfl) dX1_copyFrom_8 ?_
  refine w_aload_0 (pc := 11) dX1_copyFrom_11 ?_
  refine w_aload_1 (pc := 12) dX1_copyFrom_12 ?_
  refine w_getI (pc := 13) kc1 1 hE.1 hE.2.1 rfl t68 dX1_copyFrom_13 ?_
  refine w_putI (pc := 16) kc1 1 hD.1 hD.2.1 rfl t68 rfl (tyX1_ok 1 (by decide)) rfl rfl dX1_copyFrom_16 ?_
  refine w_aload_0 (pc := 19) dX1_copyFrom_19 ?_
  refine w_aload_1 (pc := 20) dX1_copyFrom_20 ?_
  refine w_getI (pc := 21) kc1 2 hE.1 hE.2.1 rfl t69 dX1_copyFrom_21 ?_
  refine w_putI (pc := 24) kc1 2 hD.1 hD.2.1 rfl t69 rfl (tyX1_ok 2 (by decide)) rfl rfl dX1_copyFrom_24 ?_
  refine w_vret (pc := 27) rfl ⟨Nat.le_refl _, Nat.le_refl _⟩ dX1_copyFrom_27 ?_
  have ld0 := hD.2.2.2.2.2
  have le0 := hE.2.2.2.2.2
  have q_d0_e0 : d0 ≠ e0 := by omega
  have q_d0_e1 : d0 ≠ e1 := by omega
  have q_d0_d1 : d0 ≠ d1 := by omega
  have q_d1_e0 : d1 ≠ e0 := by omega
  have q_d1_e1 : d1 ≠ e1 := by omega
  refine ⟨rfl, rfl, fun b z0 z1 => ?_, ?_, ?_, fun j hj => ?_⟩
  · simp [kst, va_up, z0, z1]
  · simp [kst, va_up, upd, q_d0_e0, q_d0_e0.symm, q_d0_e1, q_d0_e1.symm, q_d0_d1, q_d0_d1.symm, q_d1_e0, q_d1_e0.symm, q_d1_e1, q_d1_e1.symm]
  · simp [kst, va_up, upd, q_d0_e0, q_d0_e0.symm, q_d0_e1, q_d0_e1.symm, q_d0_d1, q_d0_d1.symm, q_d1_e0, q_d1_e0.symm, q_d1_e1, q_d1_e1.symm]
  · simp [kst, va_up, upd, q_d0_e0, q_d0_e0.symm, q_d0_e1, q_d0_e1.symm, q_d0_d1, q_d0_d1.symm, q_d1_e0, q_d1_e0.symm, q_d1_e1, q_d1_e1.symm, va_cpy, hj]
set_option maxHeartbeats 4000000 in
set_option maxRecDepth 100000 in
theorem c_Bins_copyFrom {g : kG} {σ : kS} {I : kI} {d0 d1 d2 d3 e0 e1 e2 e3 : Nat} (hD : sBins g σ d0 d1 d2 d3) (hE : sBins g σ e0 e1 e2 e3) (hd : d3 < e0 ∨ e3 < d0)  : ct g mX2_copyFrom ⟨2, 0, 0, 47⟩ [.ref d0, .ref e0] σ I (qEV σ (fun I1 => (∀ b, b ≠ d0 → b ≠ d1 → b ≠ d2 → b ≠ d3 → I1 b = I b) ∧ I1 d0 3 = I e0 3 ∧ (∀ j, j < 32 → I1 d1 j = I e1 j) ∧ (∀ j, j < 8 → I1 d2 j = I e2 j) ∧ (∀ j, j < 8 → I1 d3 j = I e3 j))) := by
  refine ct_of pn2 rfl (Nat.le_of_ble_eq_true rfl) ok_X2_copyFrom.1 trivial ?_
  show wp _ _ _ _ _ _ _ _ 0 [some (.ref d0), some (.ref e0)] []
  refine w_aload_0 (pc := 0) dX2_copyFrom_0 ?_
  refine w_getR (pc := 1) (b := d1) kc2 0 hD.1 hD.2.1 rfl hD.2.2.2.2.2.2.2.2.1 t85 dX2_copyFrom_1 ?_
  refine w_aload_1 (pc := 4) dX2_copyFrom_4 ?_
  refine w_getR (pc := 5) (b := e1) kc2 0 hE.1 hE.2.1 rfl hE.2.2.2.2.2.2.2.2.1 t85 dX2_copyFrom_5 ?_
  refine w_callN_V (pc := 8) (c_copyInto hD.2.2.1 hD.2.2.2.1 hE.2.2.1 hE.2.2.2.1 (by decide)) ok_X10_copyInto t159 n398 ⟨Nat.le_of_ble_eq_true rfl, Nat.le_of_ble_eq_true rfl⟩ ⟨rfl, rfl⟩ ⟨Nat.le_refl _, Nat.le_refl _⟩ rfl (Nat.le_of_ble_eq_true rfl) dX2_copyFrom_8 ?_
  refine w_aload_0 (pc := 11) dX2_copyFrom_11 ?_
  refine w_getR (pc := 12) (b := d2) kc2 1 hD.1 hD.2.1 rfl hD.2.2.2.2.2.2.2.2.2.1 t87 dX2_copyFrom_12 ?_
  refine w_aload_1 (pc := 15) dX2_copyFrom_15 ?_
  refine w_getR (pc := 16) (b := e2) kc2 1 hE.1 hE.2.1 rfl hE.2.2.2.2.2.2.2.2.2.1 t87 dX2_copyFrom_16 ?_
  refine w_callN_V (pc := 19) (c_copyInto hD.2.2.2.2.1 hD.2.2.2.2.2.1 hE.2.2.2.2.1 hE.2.2.2.2.2.1 (by decide)) ok_X10_copyInto t159 n398 ⟨Nat.le_of_ble_eq_true rfl, Nat.le_of_ble_eq_true rfl⟩ ⟨rfl, rfl⟩ ⟨Nat.le_refl _, Nat.le_refl _⟩ rfl (Nat.le_of_ble_eq_true rfl) dX2_copyFrom_19 ?_
  refine w_aload_0 (pc := 22) dX2_copyFrom_22 ?_
  refine w_getR (pc := 23) (b := d3) kc2 2 hD.1 hD.2.1 rfl hD.2.2.2.2.2.2.2.2.2.2.1 t90 dX2_copyFrom_23 ?_
  refine w_aload_1 (pc := 26) dX2_copyFrom_26 ?_
  refine w_getR (pc := 27) (b := e3) kc2 2 hE.1 hE.2.1 rfl hE.2.2.2.2.2.2.2.2.2.2.1 t90 dX2_copyFrom_27 ?_
  refine w_callN_V (pc := 30) (c_copyInto hD.2.2.2.2.2.2.1 hD.2.2.2.2.2.2.2.1 hE.2.2.2.2.2.2.1 hE.2.2.2.2.2.2.2.1 (by decide)) ok_X10_copyInto t159 n398 ⟨Nat.le_of_ble_eq_true rfl, Nat.le_of_ble_eq_true rfl⟩ ⟨rfl, rfl⟩ ⟨Nat.le_refl _, Nat.le_refl _⟩ rfl (Nat.le_of_ble_eq_true rfl) dX2_copyFrom_30 ?_
  refine w_aload_0 (pc := 33) dX2_copyFrom_33 ?_
  refine w_aload_1 (pc := 34) dX2_copyFrom_34 ?_
  refine w_getI (pc := 35) kc2 3 hE.1 hE.2.1 rfl t92 dX2_copyFrom_35 ?_
  refine w_putI (pc := 38) kc2 3 hD.1 hD.2.1 rfl t92 rfl (tyX2_ok 3 (by decide)) rfl rfl dX2_copyFrom_38 ?_
  refine w_vret (pc := 41) rfl ⟨Nat.le_refl _, Nat.le_refl _⟩ dX2_copyFrom_41 ?_
  have ld0 := hD.2.2.2.2.2.2.2.2.2.2.2.1
  have le0 := hE.2.2.2.2.2.2.2.2.2.2.2.1
  have ld1 := hD.2.2.2.2.2.2.2.2.2.2.2.2.1
  have le1 := hE.2.2.2.2.2.2.2.2.2.2.2.2.1
  have ld2 := hD.2.2.2.2.2.2.2.2.2.2.2.2.2
  have le2 := hE.2.2.2.2.2.2.2.2.2.2.2.2.2
  have q_d0_e0 : d0 ≠ e0 := by omega
  have q_d0_e1 : d0 ≠ e1 := by omega
  have q_d0_d1 : d0 ≠ d1 := by omega
  have q_d0_e2 : d0 ≠ e2 := by omega
  have q_d0_d2 : d0 ≠ d2 := by omega
  have q_d0_e3 : d0 ≠ e3 := by omega
  have q_d0_d3 : d0 ≠ d3 := by omega
  have q_d1_e0 : d1 ≠ e0 := by omega
  have q_d1_e1 : d1 ≠ e1 := by omega
  have q_d1_e2 : d1 ≠ e2 := by omega
  have q_d1_d2 : d1 ≠ d2 := by omega
  have q_d1_e3 : d1 ≠ e3 := by omega
  have q_d1_d3 : d1 ≠ d3 := by omega
  have q_d2_e0 : d2 ≠ e0 := by omega
  have q_d2_e1 : d2 ≠ e1 := by omega
  have q_d2_e2 : d2 ≠ e2 := by omega
  have q_d2_e3 : d2 ≠ e3 := by omega
  have q_d2_d3 : d2 ≠ d3 := by omega
  have q_d3_e0 : d3 ≠ e0 := by omega
  have q_d3_e1 : d3 ≠ e1 := by omega
  have q_d3_e2 : d3 ≠ e2 := by omega
  have q_d3_e3 : d3 ≠ e3 := by omega
  refine ⟨rfl, rfl, fun b z0 z1 z2 z3 => ?_, ?_, fun j hj => ?_, fun j hj => ?_, fun j hj => ?_⟩
  · simp [kst, va_up, z0, z1, z2, z3]
  · simp [kst, va_up, upd, q_d0_e0, q_d0_e0.symm, q_d0_e1, q_d0_e1.symm, q_d0_d1, q_d0_d1.symm, q_d0_e2, q_d0_e2.symm, q_d0_d2, q_d0_d2.symm, q_d0_e3, q_d0_e3.symm, q_d0_d3, q_d0_d3.symm, q_d1_e0, q_d1_e0.symm, q_d1_e1, q_d1_e1.symm, q_d1_e2, q_d1_e2.symm, q_d1_d2, q_d1_d2.symm, q_d1_e3, q_d1_e3.symm, q_d1_d3, q_d1_d3.symm, q_d2_e0, q_d2_e0.symm, q_d2_e1, q_d2_e1.symm, q_d2_e2, q_d2_e2.symm, q_d2_e3, q_d2_e3.symm, q_d2_d3, q_d2_d3.symm, q_d3_e0, q_d3_e0.symm, q_d3_e1, q_d3_e1.symm, q_d3_e2, q_d3_e2.symm, q_d3_e3, q_d3_e3.symm]
  · simp [kst, va_up, upd, q_d0_e0, q_d0_e0.symm, q_d0_e1, q_d0_e1.symm, q_d0_d1, q_d0_d1.symm, q_d0_e2, q_d0_e2.symm, q_d0_d2, q_d0_d2.symm, q_d0_e3, q_d0_e3.symm, q_d0_d3, q_d0_d3.symm, q_d1_e0, q_d1_e0.symm, q_d1_e1, q_d1_e1.symm, q_d1_e2, q_d1_e2.symm, q_d1_d2, q_d1_d2.symm, q_d1_e3, q_d1_e3.symm, q_d1_d3, q_d1_d3.symm, q_d2_e0, q_d2_e0.symm, q_d2_e1, q_d2_e1.symm, q_d2_e2, q_d2_e2.symm, q_d2_e3, q_d2_e3.symm, q_d2_d3, q_d2_d3.symm, q_d3_e0, q_d3_e0.symm, q_d3_e1, q_d3_e1.symm, q_d3_e2, q_d3_e2.symm, q_d3_e3, q_d3_e3.symm, va_cpy, hj]
  · simp [kst, va_up, upd, q_d0_e0, q_d0_e0.symm, q_d0_e1, q_d0_e1.symm, q_d0_d1, q_d0_d1.symm, q_d0_e2, q_d0_e2.symm, q_d0_d2, q_d0_d2.symm, q_d0_e3, q_d0_e3.symm, q_d0_d3, q_d0_d3.symm, q_d1_e0, q_d1_e0.symm, q_d1_e1, q_d1_e1.symm, q_d1_e2, q_d1_e2.symm, q_d1_d2, q_d1_d2.symm, q_d1_e3, q_d1_e3.symm, q_d1_d3, q_d1_d3.symm, q_d2_e0, q_d2_e0.symm, q_d2_e1, q_d2_e1.symm, q_d2_e2, q_d2_e2.symm, q_d2_e3, q_d2_e3.symm, q_d2_d3, q_d2_d3.symm, q_d3_e0, q_d3_e0.symm, q_d3_e1, q_d3_e1.symm, q_d3_e2, q_d3_e2.symm, q_d3_e3, q_d3_e3.symm, va_cpy, hj]
  · simp [kst, va_up, upd, q_d0_e0, q_d0_e0.symm, q_d0_e1, q_d0_e1.symm, q_d0_d1, q_d0_d1.symm, q_d0_e2, q_d0_e2.symm, q_d0_d2, q_d0_d2.symm, q_d0_e3, q_d0_e3.symm, q_d0_d3, q_d0_d3.symm, q_d1_e0, q_d1_e0.symm, q_d1_e1, q_d1_e1.symm, q_d1_e2, q_d1_e2.symm, q_d1_d2, q_d1_d2.symm, q_d1_e3, q_d1_e3.symm, q_d1_d3, q_d1_d3.symm, q_d2_e0, q_d2_e0.symm, q_d2_e1, q_d2_e1.symm, q_d2_e2, q_d2_e2.symm, q_d2_e3, q_d2_e3.symm, q_d2_d3, q_d2_d3.symm, q_d3_e0, q_d3_e0.symm, q_d3_e1, q_d3_e1.symm, q_d3_e2, q_d3_e2.symm, q_d3_e3, q_d3_e3.symm, va_cpy, hj]
set_option maxHeartbeats 4000000 in
set_option maxRecDepth 100000 in
theorem c_Scale_copyFrom {g : kG} {σ : kS} {I : kI} {d0 e0 : Nat} (hD : sScale g σ d0) (hE : sScale g σ e0) (hd : d0 < e0 ∨ e0 < d0)  : ct g mX8_copyFrom ⟨0, 0, 0, 0⟩ [.ref d0, .ref e0] σ I (qEV σ (fun I1 => (∀ b, b ≠ d0 → I1 b = I b) ∧ I1 d0 0 = I e0 0 ∧ I1 d0 1 = I e0 1 ∧ I1 d0 2 = I e0 2 ∧ I1 d0 3 = I e0 3 ∧ I1 d0 4 = I e0 4)) := by
  refine ct_of pn8 rfl (Nat.le_of_ble_eq_true rfl) ok_X8_copyFrom.1 trivial ?_
  show wp _ _ _ _ _ _ _ _ 0 [some (.ref d0), some (.ref e0)] []
  refine w_aload_0 (pc := 0) dX8_copyFrom_0 ?_
  refine w_aload_1 (pc := 1) dX8_copyFrom_1 ?_
  refine w_getI (pc := 2) kc8 0 hE.1 hE.2 rfl t110 dX8_copyFrom_2 ?_
  refine w_putI (pc := 5) kc8 0 hD.1 hD.2 rfl t110 rfl (tyX8_ok 0 (by decide)) rfl rfl dX8_copyFrom_5 ?_
  refine w_aload_0 (pc := 8) dX8_copyFrom_8 ?_
  refine w_aload_1 (pc := 9) dX8_copyFrom_9 ?_
  refine w_getI (pc := 10) kc8 1 hE.1 hE.2 rfl t113 dX8_copyFrom_10 ?_
  refine w_putI (pc := 13) kc8 1 hD.1 hD.2 rfl t113 rfl (tyX8_ok 1 (by decide)) rfl rfl dX8_copyFrom_13 ?_
  refine w_aload_0 (pc := 16) dX8_copyFrom_16 ?_
  refine w_aload_1 (pc := 17) dX8_copyFrom_17 ?_
  refine w_getI (pc := 18) kc8 2 hE.1 hE.2 rfl t116 dX8_copyFrom_18 ?_
  refine w_putI (pc := 21) kc8 2 hD.1 hD.2 rfl t116 rfl (tyX8_ok 2 (by decide)) rfl rfl dX8_copyFrom_21 ?_
  refine w_aload_0 (pc := 24) dX8_copyFrom_24 ?_
  refine w_aload_1 (pc := 25) dX8_copyFrom_25 ?_
  refine w_getI (pc := 26) kc8 3 hE.1 hE.2 rfl t118 dX8_copyFrom_26 ?_
  refine w_putI (pc := 29) kc8 3 hD.1 hD.2 rfl t118 rfl (tyX8_ok 3 (by decide)) rfl rfl dX8_copyFrom_29 ?_
  refine w_aload_0 (pc := 32) dX8_copyFrom_32 ?_
  refine w_aload_1 (pc := 33) dX8_copyFrom_33 ?_
  refine w_getI (pc := 34) kc8 4 hE.1 hE.2 rfl t119 dX8_copyFrom_34 ?_
  refine w_putI (pc := 37) kc8 4 hD.1 hD.2 rfl t119 rfl (tyX8_ok 4 (by decide)) rfl rfl dX8_copyFrom_37 ?_
  refine w_vret (pc := 40) rfl ⟨Nat.le_refl _, Nat.le_refl _⟩ dX8_copyFrom_40 ?_
  have q_d0_e0 : d0 ≠ e0 := by omega
  refine ⟨rfl, rfl, fun b z0 => ?_, ?_, ?_, ?_, ?_, ?_⟩
  · simp [kst, va_up, z0]
  · simp [kst, va_up, upd, q_d0_e0, q_d0_e0.symm]
  · simp [kst, va_up, upd, q_d0_e0, q_d0_e0.symm]
  · simp [kst, va_up, upd, q_d0_e0, q_d0_e0.symm]
  · simp [kst, va_up, upd, q_d0_e0, q_d0_e0.symm]
  · simp [kst, va_up, upd, q_d0_e0, q_d0_e0.symm]
set_option maxHeartbeats 4000000 in
set_option maxRecDepth 100000 in
theorem c_Acc_copyFrom {g : kG} {σ : kS} {I : kI} {d0 d1 d2 d3 e0 e1 e2 e3 : Nat} (hD : sAcc g σ d0 d1 d2 d3) (hE : sAcc g σ e0 e1 e2 e3) (hd : d3 < e0 ∨ e3 < d0)  : ct g mX0_copyFrom ⟨2, 0, 0, 47⟩ [.ref d0, .ref e0] σ I (qEV σ (fun I1 => (∀ b, b ≠ d0 → b ≠ d1 → b ≠ d2 → b ≠ d3 → I1 b = I b) ∧ I1 d0 3 = I e0 3 ∧ (∀ j, j < 8 → I1 d1 j = I e1 j) ∧ (∀ j, j < 8 → I1 d2 j = I e2 j) ∧ (∀ j, j < 4 → I1 d3 j = I e3 j))) := by
  refine ct_of pn0 rfl (Nat.le_of_ble_eq_true rfl) ok_X0_copyFrom.1 trivial ?_
  show wp _ _ _ _ _ _ _ _ 0 [some (.ref d0), some (.ref e0)] []
  refine w_aload_0 (pc := 0) dX0_copyFrom_0 ?_
  refine w_getR (pc := 1) (b := d1) kc0 0 hD.1 hD.2.1 rfl hD.2.2.2.2.2.2.2.2.1 t139 dX0_copyFrom_1 ?_
  refine w_aload_1 (pc := 4) dX0_copyFrom_4 ?_
  refine w_getR (pc := 5) (b := e1) kc0 0 hE.1 hE.2.1 rfl hE.2.2.2.2.2.2.2.2.1 t139 dX0_copyFrom_5 ?_
  refine w_callN_V (pc := 8) (c_copyInto hD.2.2.1 hD.2.2.2.1 hE.2.2.1 hE.2.2.2.1 (by decide)) ok_X10_copyInto t159 n407 ⟨Nat.le_of_ble_eq_true rfl, Nat.le_of_ble_eq_true rfl⟩ ⟨rfl, rfl⟩ ⟨Nat.le_refl _, Nat.le_refl _⟩ rfl (Nat.le_of_ble_eq_true rfl) dX0_copyFrom_8 ?_
  refine w_aload_0 (pc := 11) dX0_copyFrom_11 ?_
  refine w_getR (pc := 12) (b := d2) kc0 1 hD.1 hD.2.1 rfl hD.2.2.2.2.2.2.2.2.2.1 t141 dX0_copyFrom_12 ?_
  refine w_aload_1 (pc := 15) dX0_copyFrom_15 ?_
  refine w_getR (pc := 16) (b := e2) kc0 1 hE.1 hE.2.1 rfl hE.2.2.2.2.2.2.2.2.2.1 t141 dX0_copyFrom_16 ?_
  refine w_callN_V (pc := 19) (c_copyInto hD.2.2.2.2.1 hD.2.2.2.2.2.1 hE.2.2.2.2.1 hE.2.2.2.2.2.1 (by decide)) ok_X10_copyInto t159 n407 ⟨Nat.le_of_ble_eq_true rfl, Nat.le_of_ble_eq_true rfl⟩ ⟨rfl, rfl⟩ ⟨Nat.le_refl _, Nat.le_refl _⟩ rfl (Nat.le_of_ble_eq_true rfl) dX0_copyFrom_19 ?_
  refine w_aload_0 (pc := 22) dX0_copyFrom_22 ?_
  refine w_getR (pc := 23) (b := d3) kc0 2 hD.1 hD.2.1 rfl hD.2.2.2.2.2.2.2.2.2.2.1 t143 dX0_copyFrom_23 ?_
  refine w_aload_1 (pc := 26) dX0_copyFrom_26 ?_
  refine w_getR (pc := 27) (b := e3) kc0 2 hE.1 hE.2.1 rfl hE.2.2.2.2.2.2.2.2.2.2.1 t143 dX0_copyFrom_27 ?_
  refine w_callN_V (pc := 30) (c_copyInto hD.2.2.2.2.2.2.1 hD.2.2.2.2.2.2.2.1 hE.2.2.2.2.2.2.1 hE.2.2.2.2.2.2.2.1 (by decide)) ok_X10_copyInto t159 n407 ⟨Nat.le_of_ble_eq_true rfl, Nat.le_of_ble_eq_true rfl⟩ ⟨rfl, rfl⟩ ⟨Nat.le_refl _, Nat.le_refl _⟩ rfl (Nat.le_of_ble_eq_true rfl) dX0_copyFrom_30 ?_
  refine w_aload_0 (pc := 33) dX0_copyFrom_33 ?_
  refine w_aload_1 (pc := 34) dX0_copyFrom_34 ?_
  refine w_getI (pc := 35) kc0 3 hE.1 hE.2.1 rfl t145 dX0_copyFrom_35 ?_
  refine w_putI (pc := 38) kc0 3 hD.1 hD.2.1 rfl t145 rfl (tyX0_ok 3 (by decide)) rfl rfl dX0_copyFrom_38 ?_
  refine w_vret (pc := 41) rfl ⟨Nat.le_refl _, Nat.le_refl _⟩ dX0_copyFrom_41 ?_
  have ld0 := hD.2.2.2.2.2.2.2.2.2.2.2.1
  have le0 := hE.2.2.2.2.2.2.2.2.2.2.2.1
  have ld1 := hD.2.2.2.2.2.2.2.2.2.2.2.2.1
  have le1 := hE.2.2.2.2.2.2.2.2.2.2.2.2.1
  have ld2 := hD.2.2.2.2.2.2.2.2.2.2.2.2.2
  have le2 := hE.2.2.2.2.2.2.2.2.2.2.2.2.2
  have q_d0_e0 : d0 ≠ e0 := by omega
  have q_d0_e1 : d0 ≠ e1 := by omega
  have q_d0_d1 : d0 ≠ d1 := by omega
  have q_d0_e2 : d0 ≠ e2 := by omega
  have q_d0_d2 : d0 ≠ d2 := by omega
  have q_d0_e3 : d0 ≠ e3 := by omega
  have q_d0_d3 : d0 ≠ d3 := by omega
  have q_d1_e0 : d1 ≠ e0 := by omega
  have q_d1_e1 : d1 ≠ e1 := by omega
  have q_d1_e2 : d1 ≠ e2 := by omega
  have q_d1_d2 : d1 ≠ d2 := by omega
  have q_d1_e3 : d1 ≠ e3 := by omega
  have q_d1_d3 : d1 ≠ d3 := by omega
  have q_d2_e0 : d2 ≠ e0 := by omega
  have q_d2_e1 : d2 ≠ e1 := by omega
  have q_d2_e2 : d2 ≠ e2 := by omega
  have q_d2_e3 : d2 ≠ e3 := by omega
  have q_d2_d3 : d2 ≠ d3 := by omega
  have q_d3_e0 : d3 ≠ e0 := by omega
  have q_d3_e1 : d3 ≠ e1 := by omega
  have q_d3_e2 : d3 ≠ e2 := by omega
  have q_d3_e3 : d3 ≠ e3 := by omega
  refine ⟨rfl, rfl, fun b z0 z1 z2 z3 => ?_, ?_, fun j hj => ?_, fun j hj => ?_, fun j hj => ?_⟩
  · simp [kst, va_up, z0, z1, z2, z3]
  · simp [kst, va_up, upd, q_d0_e0, q_d0_e0.symm, q_d0_e1, q_d0_e1.symm, q_d0_d1, q_d0_d1.symm, q_d0_e2, q_d0_e2.symm, q_d0_d2, q_d0_d2.symm, q_d0_e3, q_d0_e3.symm, q_d0_d3, q_d0_d3.symm, q_d1_e0, q_d1_e0.symm, q_d1_e1, q_d1_e1.symm, q_d1_e2, q_d1_e2.symm, q_d1_d2, q_d1_d2.symm, q_d1_e3, q_d1_e3.symm, q_d1_d3, q_d1_d3.symm, q_d2_e0, q_d2_e0.symm, q_d2_e1, q_d2_e1.symm, q_d2_e2, q_d2_e2.symm, q_d2_e3, q_d2_e3.symm, q_d2_d3, q_d2_d3.symm, q_d3_e0, q_d3_e0.symm, q_d3_e1, q_d3_e1.symm, q_d3_e2, q_d3_e2.symm, q_d3_e3, q_d3_e3.symm]
  · simp [kst, va_up, upd, q_d0_e0, q_d0_e0.symm, q_d0_e1, q_d0_e1.symm, q_d0_d1, q_d0_d1.symm, q_d0_e2, q_d0_e2.symm, q_d0_d2, q_d0_d2.symm, q_d0_e3, q_d0_e3.symm, q_d0_d3, q_d0_d3.symm, q_d1_e0, q_d1_e0.symm, q_d1_e1, q_d1_e1.symm, q_d1_e2, q_d1_e2.symm, q_d1_d2, q_d1_d2.symm, q_d1_e3, q_d1_e3.symm, q_d1_d3, q_d1_d3.symm, q_d2_e0, q_d2_e0.symm, q_d2_e1, q_d2_e1.symm, q_d2_e2, q_d2_e2.symm, q_d2_e3, q_d2_e3.symm, q_d2_d3, q_d2_d3.symm, q_d3_e0, q_d3_e0.symm, q_d3_e1, q_d3_e1.symm, q_d3_e2, q_d3_e2.symm, q_d3_e3, q_d3_e3.symm, va_cpy, hj]
  · simp [kst, va_up, upd, q_d0_e0, q_d0_e0.symm, q_d0_e1, q_d0_e1.symm, q_d0_d1, q_d0_d1.symm, q_d0_e2, q_d0_e2.symm, q_d0_d2, q_d0_d2.symm, q_d0_e3, q_d0_e3.symm, q_d0_d3, q_d0_d3.symm, q_d1_e0, q_d1_e0.symm, q_d1_e1, q_d1_e1.symm, q_d1_e2, q_d1_e2.symm, q_d1_d2, q_d1_d2.symm, q_d1_e3, q_d1_e3.symm, q_d1_d3, q_d1_d3.symm, q_d2_e0, q_d2_e0.symm, q_d2_e1, q_d2_e1.symm, q_d2_e2, q_d2_e2.symm, q_d2_e3, q_d2_e3.symm, q_d2_d3, q_d2_d3.symm, q_d3_e0, q_d3_e0.symm, q_d3_e1, q_d3_e1.symm, q_d3_e2, q_d3_e2.symm, q_d3_e3, q_d3_e3.symm, va_cpy, hj]
  · simp [kst, va_up, upd, q_d0_e0, q_d0_e0.symm, q_d0_e1, q_d0_e1.symm, q_d0_d1, q_d0_d1.symm, q_d0_e2, q_d0_e2.symm, q_d0_d2, q_d0_d2.symm, q_d0_e3, q_d0_e3.symm, q_d0_d3, q_d0_d3.symm, q_d1_e0, q_d1_e0.symm, q_d1_e1, q_d1_e1.symm, q_d1_e2, q_d1_e2.symm, q_d1_d2, q_d1_d2.symm, q_d1_e3, q_d1_e3.symm, q_d1_d3, q_d1_d3.symm, q_d2_e0, q_d2_e0.symm, q_d2_e1, q_d2_e1.symm, q_d2_e2, q_d2_e2.symm, q_d2_e3, q_d2_e3.symm, q_d2_d3, q_d2_d3.symm, q_d3_e0, q_d3_e0.symm, q_d3_e1, q_d3_e1.symm, q_d3_e2, q_d3_e2.symm, q_d3_e3, q_d3_e3.symm, va_cpy, hj]
-- the int slots of a plant's sixteen cells
def pSl (j k : Nat) : Prop := match j with
  | 0 => 6 ≤ k ∧ k < 15
  | 1 => k = 2 ∨ k = 3
  | 2 => k < 6
  | 3 => k < 6
  | 4 => k = 1 ∨ k = 2
  | 5 => k < 48
  | 6 => k = 3
  | 7 => k < 32
  | 8 => k < 8
  | 9 => k < 8
  | 10 => k < 5
  | 11 => k = 3
  | 12 => k < 8
  | 13 => k < 8
  | 14 => k < 4
  | 15 => k < 3
  | _ => False
def sameP (I1 : kI) (p : Nat) (I : kI) (q : Nat) : Prop := ∀ j k, pSl j k → I1 (p + j) k = I (q + j) k
set_option maxHeartbeats 4000000 in
set_option maxRecDepth 100000 in
theorem c_Plant_copyFrom {g : kG} {σ : kS} {I : kI} {p q : Nat} (hP : sPlant g σ p) (hQ : sPlant g σ q) (hd : p + 16 ≤ q ∨ q + 16 ≤ p) (hz : I q 9 = 0 ∨ I q 9 = 1) : ct g mX6_copyFrom ⟨3, 0, 0, 68⟩ [.ref p, .ref q] σ I (qEV σ (fun I1 => (∀ b, (b < p ∨ p + 16 ≤ b) → I1 b = I b) ∧ sameP I1 p I q)) := by
  refine ct_of pn6 rfl (Nat.le_of_ble_eq_true rfl) ok_X6_copyFrom.1 trivial ?_
  show wp _ _ _ _ _ _ _ _ 0 [some (.ref p), some (.ref q)] []
  have hqp : q ≠ p := by omega
  refine w_aload_0 (pc := 0) dX6_copyFrom_0 ?_
  refine w_getR (pc := 1) (b := p + 1) kc6 0 (sP_in0 hP) (sP_s0 hP) rfl (sP_r0_0 hP) t167 dX6_copyFrom_1 ?_
  refine w_aload_1 (pc := 4) dX6_copyFrom_4 ?_
  refine w_getR (pc := 5) (b := q + 1) kc6 0 (sP_in0 hQ) (sP_s0 hQ) rfl (sP_r0_0 hQ) t167 dX6_copyFrom_5 ?_
  refine w_callV_EV (pc := 8) (c_Hop_copyFrom (sP_Hop hP) (sP_Hop hQ) (by omega)) ok_X5_copyFrom t385 t386 kc5 (sP_in hP (k := 1) (by decide)) (sP_s1 hP) t384 ⟨Nat.le_of_ble_eq_true rfl, Nat.le_of_ble_eq_true rfl⟩ ⟨rfl, rfl⟩ ⟨Nat.le_refl _, Nat.le_refl _⟩ rfl (Nat.le_of_ble_eq_true rfl) dX6_copyFrom_8 (fun I8 h8 => ?_)
  refine w_aload_0 (pc := 11) dX6_copyFrom_11 ?_
  refine w_getR (pc := 12) (b := p + 4) kc6 1 (sP_in0 hP) (sP_s0 hP) rfl (sP_r0_1 hP) t169 dX6_copyFrom_12 ?_
  refine w_aload_1 (pc := 15) dX6_copyFrom_15 ?_
  refine w_getR (pc := 16) (b := q + 4) kc6 1 (sP_in0 hQ) (sP_s0 hQ) rfl (sP_r0_1 hQ) t169 dX6_copyFrom_16 ?_
  refine w_callV_EV (pc := 19) (c_Belt_copyFrom (sP_Belt hP) (sP_Belt hQ) (by omega)) ok_X1_copyFrom t390 t391 kc1 (sP_in hP (k := 4) (by decide)) (sP_s4 hP) t389 ⟨Nat.le_of_ble_eq_true rfl, Nat.le_of_ble_eq_true rfl⟩ ⟨rfl, rfl⟩ ⟨Nat.le_refl _, Nat.le_refl _⟩ rfl (Nat.le_of_ble_eq_true rfl) dX6_copyFrom_19 (fun I19 h19 => ?_)
  refine w_aload_0 (pc := 22) dX6_copyFrom_22 ?_
  refine w_getR (pc := 23) (b := p + 6) kc6 2 (sP_in0 hP) (sP_s0 hP) rfl (sP_r0_2 hP) t171 dX6_copyFrom_23 ?_
  refine w_aload_1 (pc := 26) dX6_copyFrom_26 ?_
  refine w_getR (pc := 27) (b := q + 6) kc6 2 (sP_in0 hQ) (sP_s0 hQ) rfl (sP_r0_2 hQ) t171 dX6_copyFrom_27 ?_
  refine w_callV_EV (pc := 30) (c_Bins_copyFrom (sP_Bins hP) (sP_Bins hQ) (by omega)) ok_X2_copyFrom t395 t396 kc2 (sP_in hP (k := 6) (by decide)) (sP_s6 hP) t394 ⟨Nat.le_of_ble_eq_true rfl, Nat.le_of_ble_eq_true rfl⟩ ⟨rfl, rfl⟩ ⟨Nat.le_refl _, Nat.le_refl _⟩ rfl (Nat.le_of_ble_eq_true rfl) dX6_copyFrom_30 (fun I30 h30 => ?_)
  refine w_aload_0 (pc := 33) dX6_copyFrom_33 ?_
  refine w_getR (pc := 34) (b := p + 10) kc6 3 (sP_in0 hP) (sP_s0 hP) rfl (sP_r0_3 hP) t173 dX6_copyFrom_34 ?_
  refine w_aload_1 (pc := 37) dX6_copyFrom_37 ?_
  refine w_getR (pc := 38) (b := q + 10) kc6 3 (sP_in0 hQ) (sP_s0 hQ) rfl (sP_r0_3 hQ) t173 dX6_copyFrom_38 ?_
  refine w_callV_EV (pc := 41) (c_Scale_copyFrom (sP_Scale hP) (sP_Scale hQ) (by omega)) ok_X8_copyFrom t400 t401 kc8 (sP_in hP (k := 10) (by decide)) (sP_s10 hP) t399 ⟨Nat.le_of_ble_eq_true rfl, Nat.le_of_ble_eq_true rfl⟩ ⟨rfl, rfl⟩ ⟨Nat.le_refl _, Nat.le_refl _⟩ rfl (Nat.le_of_ble_eq_true rfl) dX6_copyFrom_41 (fun I41 h41 => ?_)
  refine w_aload_0 (pc := 44) dX6_copyFrom_44 ?_
  refine w_getR (pc := 45) (b := p + 11) kc6 4 (sP_in0 hP) (sP_s0 hP) rfl (sP_r0_4 hP) t175 dX6_copyFrom_45 ?_
  refine w_aload_1 (pc := 48) dX6_copyFrom_48 ?_
  refine w_getR (pc := 49) (b := q + 11) kc6 4 (sP_in0 hQ) (sP_s0 hQ) rfl (sP_r0_4 hQ) t175 dX6_copyFrom_49 ?_
  refine w_callV_EV (pc := 52) (c_Acc_copyFrom (sP_Acc hP) (sP_Acc hQ) (by omega)) ok_X0_copyFrom t404 t405 kc0 (sP_in hP (k := 11) (by decide)) (sP_s11 hP) t403 ⟨Nat.le_of_ble_eq_true rfl, Nat.le_of_ble_eq_true rfl⟩ ⟨rfl, rfl⟩ ⟨Nat.le_refl _, Nat.le_refl _⟩ rfl (Nat.le_of_ble_eq_true rfl) dX6_copyFrom_52 (fun I52 h52 => ?_)
  refine w_aload_0 (pc := 55) dX6_copyFrom_55 ?_
  refine w_getR (pc := 56) (b := p + 15) kc6 5 (sP_in0 hP) (sP_s0 hP) rfl (sP_r0_5 hP) t177 dX6_copyFrom_56 ?_
  refine w_aload_1 (pc := 59) dX6_copyFrom_59 ?_
  refine w_getR (pc := 60) (b := q + 15) kc6 5 (sP_in0 hQ) (sP_s0 hQ) rfl (sP_r0_5 hQ) t177 dX6_copyFrom_60 ?_
  refine w_callN_V (pc := 63) (c_copyInto (sP_in hP (k := 15) (by decide)) (sP_s15 hP) (sP_in hQ (k := 15) (by decide)) (sP_s15 hQ) (by decide)) ok_X10_copyInto t159 n158 ⟨Nat.le_of_ble_eq_true rfl, Nat.le_of_ble_eq_true rfl⟩ ⟨rfl, rfl⟩ ⟨Nat.le_refl _, Nat.le_refl _⟩ rfl (Nat.le_of_ble_eq_true rfl) dX6_copyFrom_63 ?_
  refine w_aload_0 (pc := 66) dX6_copyFrom_66 ?_
  refine w_aload_1 (pc := 67) dX6_copyFrom_67 ?_
  refine w_getI (pc := 68) kc6 6 (sP_in0 hQ) (sP_s0 hQ) rfl t179 dX6_copyFrom_68 ?_
  refine w_putI (pc := 71) kc6 6 (sP_in0 hP) (sP_s0 hP) rfl t179 rfl (tyX6_ok 6 (by decide)) rfl rfl dX6_copyFrom_71 ?_
  refine w_aload_0 (pc := 74) dX6_copyFrom_74 ?_
  refine w_aload_1 (pc := 75) dX6_copyFrom_75 ?_
  refine w_getI (pc := 76) kc6 7 (sP_in0 hQ) (sP_s0 hQ) rfl t181 dX6_copyFrom_76 ?_
  refine w_putI (pc := 79) kc6 7 (sP_in0 hP) (sP_s0 hP) rfl t181 rfl (tyX6_ok 7 (by decide)) rfl rfl dX6_copyFrom_79 ?_
  refine w_aload_0 (pc := 82) dX6_copyFrom_82 ?_
  refine w_aload_1 (pc := 83) dX6_copyFrom_83 ?_
  refine w_getI (pc := 84) kc6 8 (sP_in0 hQ) (sP_s0 hQ) rfl t183 dX6_copyFrom_84 ?_
  refine w_putI (pc := 87) kc6 8 (sP_in0 hP) (sP_s0 hP) rfl t183 rfl (tyX6_ok 8 (by decide)) rfl rfl dX6_copyFrom_87 ?_
  refine w_aload_0 (pc := 90) dX6_copyFrom_90 ?_
  refine w_aload_1 (pc := 91) dX6_copyFrom_91 ?_
  refine w_getI (pc := 92) kc6 9 (sP_in0 hQ) (sP_s0 hQ) rfl t185 dX6_copyFrom_92 ?_
  refine w_putI (pc := 95) kc6 9 (sP_in0 hP) (sP_s0 hP) rfl t185 rfl (tyX6_ok 9 (by decide)) (nbool (by rw [kst_n hqp, kst_n hqp, kst_n hqp, va_up_ne _ _ (show q ≠ p + 15 by omega), h52.1 (q) (by omega) (by omega) (by omega) (by omega), h41.1 (q) (by omega), h30.1 (q) (by omega) (by omega) (by omega) (by omega), h19.1 (q) (by omega) (by omega), h8.1 (q) (by omega) (by omega) (by omega)]; exact hz)) (fbool (by rw [kst_n hqp, kst_n hqp, kst_n hqp, va_up_ne _ _ (show q ≠ p + 15 by omega), h52.1 (q) (by omega) (by omega) (by omega) (by omega), h41.1 (q) (by omega), h30.1 (q) (by omega) (by omega) (by omega) (by omega), h19.1 (q) (by omega) (by omega), h8.1 (q) (by omega) (by omega) (by omega)]; exact hz)) dX6_copyFrom_95 ?_
  refine w_aload_0 (pc := 98) dX6_copyFrom_98 ?_
  refine w_aload_1 (pc := 99) dX6_copyFrom_99 ?_
  refine w_getI (pc := 100) kc6 10 (sP_in0 hQ) (sP_s0 hQ) rfl t187 dX6_copyFrom_100 ?_
  refine w_putI (pc := 103) kc6 10 (sP_in0 hP) (sP_s0 hP) rfl t187 rfl (tyX6_ok 10 (by decide)) rfl rfl dX6_copyFrom_103 ?_
  refine w_aload_0 (pc := 106) dX6_copyFrom_106 ?_
  refine w_aload_1 (pc := 107) dX6_copyFrom_107 ?_
  refine w_getI (pc := 108) kc6 11 (sP_in0 hQ) (sP_s0 hQ) rfl t188 dX6_copyFrom_108 ?_
  refine w_putI (pc := 111) kc6 11 (sP_in0 hP) (sP_s0 hP) rfl t188 rfl (tyX6_ok 11 (by decide)) rfl rfl dX6_copyFrom_111 ?_
  refine w_aload_0 (pc := 114) dX6_copyFrom_114 ?_
  refine w_aload_1 (pc := 115) dX6_copyFrom_115 ?_
  refine w_getI (pc := 116) kc6 12 (sP_in0 hQ) (sP_s0 hQ) rfl t190 dX6_copyFrom_116 ?_
  refine w_putI (pc := 119) kc6 12 (sP_in0 hP) (sP_s0 hP) rfl t190 rfl (tyX6_ok 12 (by decide)) rfl rfl dX6_copyFrom_119 ?_
  refine w_aload_0 (pc := 122) dX6_copyFrom_122 ?_
  refine w_aload_1 (pc := 123) dX6_copyFrom_123 ?_
  refine w_getI (pc := 124) kc6 13 (sP_in0 hQ) (sP_s0 hQ) rfl t192 dX6_copyFrom_124 ?_
  refine w_putI (pc := 127) kc6 13 (sP_in0 hP) (sP_s0 hP) rfl t192 rfl (tyX6_ok 13 (by decide)) rfl rfl dX6_copyFrom_127 ?_
  refine w_aload_0 (pc := 130) dX6_copyFrom_130 ?_
  refine w_aload_1 (pc := 131) dX6_copyFrom_131 ?_
  refine w_getI (pc := 132) kc6 14 (sP_in0 hQ) (sP_s0 hQ) rfl t194 dX6_copyFrom_132 ?_
  refine w_putI (pc := 135) kc6 14 (sP_in0 hP) (sP_s0 hP) rfl t194 rfl (tyX6_ok 14 (by decide)) rfl rfl dX6_copyFrom_135 ?_
  refine w_vret (pc := 138) rfl ⟨Nat.le_refl _, Nat.le_refl _⟩ dX6_copyFrom_138 ?_
  refine ⟨rfl, rfl, fun b hb => ?_, fun j k hk => ?_⟩
  · rw [kst_n (show b ≠ p by omega), kst_n (show b ≠ p by omega), kst_n (show b ≠ p by omega), kst_n (show b ≠ p by omega), kst_n (show b ≠ p by omega), kst_n (show b ≠ p by omega), kst_n (show b ≠ p by omega), kst_n (show b ≠ p by omega), kst_n (show b ≠ p by omega), va_up_ne _ _ (show b ≠ p + 15 by omega), h52.1 (b) (by omega) (by omega) (by omega) (by omega), h41.1 (b) (by omega), h30.1 (b) (by omega) (by omega) (by omega) (by omega), h19.1 (b) (by omega) (by omega), h8.1 (b) (by omega) (by omega) (by omega)]
  · rcases (show j = 0 ∨ j = 1 ∨ j = 2 ∨ j = 3 ∨ j = 4 ∨ j = 5 ∨ j = 6 ∨ j = 7 ∨ j = 8 ∨ j = 9 ∨ j = 10 ∨ j = 11 ∨ j = 12 ∨ j = 13 ∨ j = 14 ∨ j = 15 ∨ 16 ≤ j by omega) with rfl | rfl | rfl | rfl | rfl | rfl | rfl | rfl | rfl | rfl | rfl | rfl | rfl | rfl | rfl | rfl | h16
    · have hk : 6 ≤ k ∧ k < 15 := hk
      have hq0 : ∀ k, I52 q k = I q k := fun k => by rw [h52.1 (q) (by omega) (by omega) (by omega) (by omega), h41.1 (q) (by omega), h30.1 (q) (by omega) (by omega) (by omega) (by omega), h19.1 (q) (by omega) (by omega), h8.1 (q) (by omega) (by omega) (by omega)]
      rcases (show k = 6 ∨ k = 7 ∨ k = 8 ∨ k = 9 ∨ k = 10 ∨ k = 11 ∨ k = 12 ∨ k = 13 ∨ k = 14 by omega) with rfl | rfl | rfl | rfl | rfl | rfl | rfl | rfl | rfl <;> simp [kst, va_up, upd, hqp, hqp.symm, hq0, show ¬ q = p + 15 by omega, show ¬ p = p + 15 by omega]
    · rw [kst_n (show p + 1 ≠ p by omega), kst_n (show p + 1 ≠ p by omega), kst_n (show p + 1 ≠ p by omega), kst_n (show p + 1 ≠ p by omega), kst_n (show p + 1 ≠ p by omega), kst_n (show p + 1 ≠ p by omega), kst_n (show p + 1 ≠ p by omega), kst_n (show p + 1 ≠ p by omega), kst_n (show p + 1 ≠ p by omega), va_up_ne _ _ (show p + 1 ≠ p + 15 by omega), h52.1 (p + 1) (by omega) (by omega) (by omega) (by omega), h41.1 (p + 1) (by omega), h30.1 (p + 1) (by omega) (by omega) (by omega) (by omega), h19.1 (p + 1) (by omega) (by omega)]
      rcases (show k = 2 ∨ k = 3 from hk) with rfl | rfl
      · rw [h8.2.1]
      · rw [h8.2.2.1]
    · rw [kst_n (show p + 2 ≠ p by omega), kst_n (show p + 2 ≠ p by omega), kst_n (show p + 2 ≠ p by omega), kst_n (show p + 2 ≠ p by omega), kst_n (show p + 2 ≠ p by omega), kst_n (show p + 2 ≠ p by omega), kst_n (show p + 2 ≠ p by omega), kst_n (show p + 2 ≠ p by omega), kst_n (show p + 2 ≠ p by omega), va_up_ne _ _ (show p + 2 ≠ p + 15 by omega), h52.1 (p + 2) (by omega) (by omega) (by omega) (by omega), h41.1 (p + 2) (by omega), h30.1 (p + 2) (by omega) (by omega) (by omega) (by omega), h19.1 (p + 2) (by omega) (by omega)]
      rw [h8.2.2.2.1 k hk]
    · rw [kst_n (show p + 3 ≠ p by omega), kst_n (show p + 3 ≠ p by omega), kst_n (show p + 3 ≠ p by omega), kst_n (show p + 3 ≠ p by omega), kst_n (show p + 3 ≠ p by omega), kst_n (show p + 3 ≠ p by omega), kst_n (show p + 3 ≠ p by omega), kst_n (show p + 3 ≠ p by omega), kst_n (show p + 3 ≠ p by omega), va_up_ne _ _ (show p + 3 ≠ p + 15 by omega), h52.1 (p + 3) (by omega) (by omega) (by omega) (by omega), h41.1 (p + 3) (by omega), h30.1 (p + 3) (by omega) (by omega) (by omega) (by omega), h19.1 (p + 3) (by omega) (by omega)]
      rw [h8.2.2.2.2 k hk]
    · rw [kst_n (show p + 4 ≠ p by omega), kst_n (show p + 4 ≠ p by omega), kst_n (show p + 4 ≠ p by omega), kst_n (show p + 4 ≠ p by omega), kst_n (show p + 4 ≠ p by omega), kst_n (show p + 4 ≠ p by omega), kst_n (show p + 4 ≠ p by omega), kst_n (show p + 4 ≠ p by omega), kst_n (show p + 4 ≠ p by omega), va_up_ne _ _ (show p + 4 ≠ p + 15 by omega), h52.1 (p + 4) (by omega) (by omega) (by omega) (by omega), h41.1 (p + 4) (by omega), h30.1 (p + 4) (by omega) (by omega) (by omega) (by omega)]
      rcases (show k = 1 ∨ k = 2 from hk) with rfl | rfl
      · rw [h19.2.1, h8.1 (q + 4) (by omega) (by omega) (by omega)]
      · rw [h19.2.2.1, h8.1 (q + 4) (by omega) (by omega) (by omega)]
    · rw [kst_n (show p + 5 ≠ p by omega), kst_n (show p + 5 ≠ p by omega), kst_n (show p + 5 ≠ p by omega), kst_n (show p + 5 ≠ p by omega), kst_n (show p + 5 ≠ p by omega), kst_n (show p + 5 ≠ p by omega), kst_n (show p + 5 ≠ p by omega), kst_n (show p + 5 ≠ p by omega), kst_n (show p + 5 ≠ p by omega), va_up_ne _ _ (show p + 5 ≠ p + 15 by omega), h52.1 (p + 5) (by omega) (by omega) (by omega) (by omega), h41.1 (p + 5) (by omega), h30.1 (p + 5) (by omega) (by omega) (by omega) (by omega)]
      rw [h19.2.2.2 k hk, h8.1 (q + 5) (by omega) (by omega) (by omega)]
    · rw [kst_n (show p + 6 ≠ p by omega), kst_n (show p + 6 ≠ p by omega), kst_n (show p + 6 ≠ p by omega), kst_n (show p + 6 ≠ p by omega), kst_n (show p + 6 ≠ p by omega), kst_n (show p + 6 ≠ p by omega), kst_n (show p + 6 ≠ p by omega), kst_n (show p + 6 ≠ p by omega), kst_n (show p + 6 ≠ p by omega), va_up_ne _ _ (show p + 6 ≠ p + 15 by omega), h52.1 (p + 6) (by omega) (by omega) (by omega) (by omega), h41.1 (p + 6) (by omega)]
      obtain rfl : k = 3 := hk
      rw [h30.2.1, h19.1 (q + 6) (by omega) (by omega), h8.1 (q + 6) (by omega) (by omega) (by omega)]
    · rw [kst_n (show p + 7 ≠ p by omega), kst_n (show p + 7 ≠ p by omega), kst_n (show p + 7 ≠ p by omega), kst_n (show p + 7 ≠ p by omega), kst_n (show p + 7 ≠ p by omega), kst_n (show p + 7 ≠ p by omega), kst_n (show p + 7 ≠ p by omega), kst_n (show p + 7 ≠ p by omega), kst_n (show p + 7 ≠ p by omega), va_up_ne _ _ (show p + 7 ≠ p + 15 by omega), h52.1 (p + 7) (by omega) (by omega) (by omega) (by omega), h41.1 (p + 7) (by omega)]
      rw [h30.2.2.1 k hk, h19.1 (q + 7) (by omega) (by omega), h8.1 (q + 7) (by omega) (by omega) (by omega)]
    · rw [kst_n (show p + 8 ≠ p by omega), kst_n (show p + 8 ≠ p by omega), kst_n (show p + 8 ≠ p by omega), kst_n (show p + 8 ≠ p by omega), kst_n (show p + 8 ≠ p by omega), kst_n (show p + 8 ≠ p by omega), kst_n (show p + 8 ≠ p by omega), kst_n (show p + 8 ≠ p by omega), kst_n (show p + 8 ≠ p by omega), va_up_ne _ _ (show p + 8 ≠ p + 15 by omega), h52.1 (p + 8) (by omega) (by omega) (by omega) (by omega), h41.1 (p + 8) (by omega)]
      rw [h30.2.2.2.1 k hk, h19.1 (q + 8) (by omega) (by omega), h8.1 (q + 8) (by omega) (by omega) (by omega)]
    · rw [kst_n (show p + 9 ≠ p by omega), kst_n (show p + 9 ≠ p by omega), kst_n (show p + 9 ≠ p by omega), kst_n (show p + 9 ≠ p by omega), kst_n (show p + 9 ≠ p by omega), kst_n (show p + 9 ≠ p by omega), kst_n (show p + 9 ≠ p by omega), kst_n (show p + 9 ≠ p by omega), kst_n (show p + 9 ≠ p by omega), va_up_ne _ _ (show p + 9 ≠ p + 15 by omega), h52.1 (p + 9) (by omega) (by omega) (by omega) (by omega), h41.1 (p + 9) (by omega)]
      rw [h30.2.2.2.2 k hk, h19.1 (q + 9) (by omega) (by omega), h8.1 (q + 9) (by omega) (by omega) (by omega)]
    · rw [kst_n (show p + 10 ≠ p by omega), kst_n (show p + 10 ≠ p by omega), kst_n (show p + 10 ≠ p by omega), kst_n (show p + 10 ≠ p by omega), kst_n (show p + 10 ≠ p by omega), kst_n (show p + 10 ≠ p by omega), kst_n (show p + 10 ≠ p by omega), kst_n (show p + 10 ≠ p by omega), kst_n (show p + 10 ≠ p by omega), va_up_ne _ _ (show p + 10 ≠ p + 15 by omega), h52.1 (p + 10) (by omega) (by omega) (by omega) (by omega)]
      have hk : k < 5 := hk
      rcases (show k = 0 ∨ k = 1 ∨ k = 2 ∨ k = 3 ∨ k = 4 by omega) with rfl | rfl | rfl | rfl | rfl
      · rw [h41.2.1, h30.1 (q + 10) (by omega) (by omega) (by omega) (by omega), h19.1 (q + 10) (by omega) (by omega), h8.1 (q + 10) (by omega) (by omega) (by omega)]
      · rw [h41.2.2.1, h30.1 (q + 10) (by omega) (by omega) (by omega) (by omega), h19.1 (q + 10) (by omega) (by omega), h8.1 (q + 10) (by omega) (by omega) (by omega)]
      · rw [h41.2.2.2.1, h30.1 (q + 10) (by omega) (by omega) (by omega) (by omega), h19.1 (q + 10) (by omega) (by omega), h8.1 (q + 10) (by omega) (by omega) (by omega)]
      · rw [h41.2.2.2.2.1, h30.1 (q + 10) (by omega) (by omega) (by omega) (by omega), h19.1 (q + 10) (by omega) (by omega), h8.1 (q + 10) (by omega) (by omega) (by omega)]
      · rw [h41.2.2.2.2.2, h30.1 (q + 10) (by omega) (by omega) (by omega) (by omega), h19.1 (q + 10) (by omega) (by omega), h8.1 (q + 10) (by omega) (by omega) (by omega)]
    · rw [kst_n (show p + 11 ≠ p by omega), kst_n (show p + 11 ≠ p by omega), kst_n (show p + 11 ≠ p by omega), kst_n (show p + 11 ≠ p by omega), kst_n (show p + 11 ≠ p by omega), kst_n (show p + 11 ≠ p by omega), kst_n (show p + 11 ≠ p by omega), kst_n (show p + 11 ≠ p by omega), kst_n (show p + 11 ≠ p by omega), va_up_ne _ _ (show p + 11 ≠ p + 15 by omega)]
      obtain rfl : k = 3 := hk
      rw [h52.2.1, h41.1 (q + 11) (by omega), h30.1 (q + 11) (by omega) (by omega) (by omega) (by omega), h19.1 (q + 11) (by omega) (by omega), h8.1 (q + 11) (by omega) (by omega) (by omega)]
    · rw [kst_n (show p + 12 ≠ p by omega), kst_n (show p + 12 ≠ p by omega), kst_n (show p + 12 ≠ p by omega), kst_n (show p + 12 ≠ p by omega), kst_n (show p + 12 ≠ p by omega), kst_n (show p + 12 ≠ p by omega), kst_n (show p + 12 ≠ p by omega), kst_n (show p + 12 ≠ p by omega), kst_n (show p + 12 ≠ p by omega), va_up_ne _ _ (show p + 12 ≠ p + 15 by omega)]
      rw [h52.2.2.1 k hk, h41.1 (q + 12) (by omega), h30.1 (q + 12) (by omega) (by omega) (by omega) (by omega), h19.1 (q + 12) (by omega) (by omega), h8.1 (q + 12) (by omega) (by omega) (by omega)]
    · rw [kst_n (show p + 13 ≠ p by omega), kst_n (show p + 13 ≠ p by omega), kst_n (show p + 13 ≠ p by omega), kst_n (show p + 13 ≠ p by omega), kst_n (show p + 13 ≠ p by omega), kst_n (show p + 13 ≠ p by omega), kst_n (show p + 13 ≠ p by omega), kst_n (show p + 13 ≠ p by omega), kst_n (show p + 13 ≠ p by omega), va_up_ne _ _ (show p + 13 ≠ p + 15 by omega)]
      rw [h52.2.2.2.1 k hk, h41.1 (q + 13) (by omega), h30.1 (q + 13) (by omega) (by omega) (by omega) (by omega), h19.1 (q + 13) (by omega) (by omega), h8.1 (q + 13) (by omega) (by omega) (by omega)]
    · rw [kst_n (show p + 14 ≠ p by omega), kst_n (show p + 14 ≠ p by omega), kst_n (show p + 14 ≠ p by omega), kst_n (show p + 14 ≠ p by omega), kst_n (show p + 14 ≠ p by omega), kst_n (show p + 14 ≠ p by omega), kst_n (show p + 14 ≠ p by omega), kst_n (show p + 14 ≠ p by omega), kst_n (show p + 14 ≠ p by omega), va_up_ne _ _ (show p + 14 ≠ p + 15 by omega)]
      rw [h52.2.2.2.2 k hk, h41.1 (q + 14) (by omega), h30.1 (q + 14) (by omega) (by omega) (by omega) (by omega), h19.1 (q + 14) (by omega) (by omega), h8.1 (q + 14) (by omega) (by omega) (by omega)]
    · have hk : k < 3 := hk
      have hq0 : ∀ k, I52 (q + 15) k = I (q + 15) k := fun k => by rw [h52.1 (q + 15) (by omega) (by omega) (by omega) (by omega), h41.1 (q + 15) (by omega), h30.1 (q + 15) (by omega) (by omega) (by omega) (by omega), h19.1 (q + 15) (by omega) (by omega), h8.1 (q + 15) (by omega) (by omega) (by omega)]
      rw [kst_n (show p + 15 ≠ p by omega), kst_n (show p + 15 ≠ p by omega), kst_n (show p + 15 ≠ p by omega), kst_n (show p + 15 ≠ p by omega), kst_n (show p + 15 ≠ p by omega), kst_n (show p + 15 ≠ p by omega), kst_n (show p + 15 ≠ p by omega), kst_n (show p + 15 ≠ p by omega), kst_n (show p + 15 ≠ p by omega), va_up_self, cpy_in hk, hq0]
    · exact absurd hk (by unfold pSl; split <;> first | omega | exact id)

