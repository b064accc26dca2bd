/-! ===== a new object and a new reference (printed by wip/whole/genh3.py) ===== -/
def ARt (t n : Nat) : MCQ := .inl (t, n, bif t == 3 then .inr (.inl (fun _ => 0)) else bif t == 4 || t == 5 then .inr (.inr (.inr (.inr (fun _ => none)))) else .inl (fun _ => 0))
theorem nA_x {σ : Mem} {t n a : Nat} (hn : n ≤ 1000000) (ha : σ.1 = a) : newA σ t (wI n) = some (a, addC σ n (ARt t n)) := by
  unfold newA
  rw [wI_toNat (by omega), show decide (wI n < 0) = false from by rw [decide_eq_false_iff_not, wI_lt0 (by omega)]; exact fun h => h, show Nat.ble n 1000000 = true from Nat.ble_eq.mpr hn, ha]
  rfl
theorem pF_x {σ : Mem} {ci a k : Nat} {v : Value} {fs gs : List Value} (h : σ.2.2 a = .inr (ci, fs)) (hk : Nat.blt k fs.length = true) (hg : fs.set k v = gs) : pF σ ci a k v = some (setC σ a (.inr (ci, gs))) := by
  unfold pF
  rw [h, ← hg]
  show (bif (ci == ci) && Nat.blt k fs.length then _ else _) = _
  rw [hk, beq_self_eq_true]
  rfl
theorem sB_x {σ : Mem} {a n i : Nat} {x : Int32} {f : Nat → Int32} (h : σ.2.2 a = .inl (1, n, .inl f)) (hi : i < n) (hn : n < 2147483648) : sB σ a (wI i) x = some (setC σ a (.inl (1, n, .inl (upd f i (vp_nar .byte x))))) := by
  unfold sB
  rw [h]
  show (bif (true || false) && inb (wI i) n then _ else _) = _
  rw [inb_wI (by omega), decide_eq_true hi, wI_toNat (by omega)]
  rfl
theorem sI_x {σ : Mem} {a n i : Nat} {x : Int32} {f : Nat → Int32} (h : σ.2.2 a = .inl (0, n, .inl f)) (hi : i < n) (hn : n < 2147483648) : sI σ a (wI i) x = some (setC σ a (.inl (0, n, .inl (upd f i x)))) := by
  unfold sI
  rw [h]
  show (bif true && inb (wI i) n then _ else _) = _
  rw [inb_wI (by omega), decide_eq_true hi, wI_toNat (by omega)]
  rfl
theorem gR_x {σ : Mem} {ci a k v : Nat} {fs : List Value} (h : σ.2.2 a = .inr (ci, fs)) (hk : fs[k]? = some (.ref v)) : gR σ ci a k = some v := by
  unfold gR gV
  rw [h]
  show (match (bif ci == ci then fs[k]? else none) with | some (.ref v) => some v | _ => none) = _
  rw [beq_self_eq_true, hk]
  rfl
theorem hO_of {α : Type} {o : Option α} {x : α} (h : o = some x) (K : α → Option Rs) (p : TU K) : hO o K p = K x := by rw [h]; rfl
def zm_0 (E : Nat → MCQ) : Mem := (0, 0, E)
def zm_1 (E : Nat → MCQ) : Mem := addC (zm_0 E) 20 (.inr (8, dfl 8))
theorem za_1 (E : Nat → MCQ) : addC (zm_0 E) 20 (.inr (8, dfl 8)) = zm_1 E := rfl
theorem zl_0 (E : Nat → MCQ) : (zm_0 E).1 = 0 := rfl
theorem zn_1 (E : Nat → MCQ) : (zm_0 E).1 = 0 := zl_0 E
theorem zi_1 (E : Nat → MCQ) : isC (zm_1 E) 8 0 = true := rfl
def zm_2 (E : Nat → MCQ) : Mem := addC (zm_1 E) 17 (.inr (1, dfl 1))
theorem za_2 (E : Nat → MCQ) : addC (zm_1 E) 17 (.inr (1, dfl 1)) = zm_2 E := rfl
theorem zl_1 (E : Nat → MCQ) : (zm_1 E).1 = 1 := rfl
theorem zn_2 (E : Nat → MCQ) : (zm_1 E).1 = 1 := zl_1 E
theorem zi_2 (E : Nat → MCQ) : isC (zm_2 E) 1 1 = true := rfl
def zm_3 (E : Nat → MCQ) : Mem := addC (zm_2 E) 6 (ARt 0 6)
theorem zl_2 (E : Nat → MCQ) : (zm_2 E).1 = 2 := rfl
theorem za_3 (E : Nat → MCQ) : newA (zm_2 E) 0 6 = some (2, zm_3 E) := nA_x (n := 6) (by decide) (zl_2 E)
def zm_4 (E : Nat → MCQ) : Mem := setC (zm_3 E) 1 (.inr (1, [.int 0, .ref 2, .int 0, .null, .null, .null, .null, .null, .null, .null, .int 0, .null, .null, .null, .int 0, .null, .int 0]))
theorem zh_3_1 (E : Nat → MCQ) : (zm_3 E).2.2 1 = .inr (1, dfl 1) := rfl
theorem za_4 (E : Nat → MCQ) : pF (zm_3 E) 1 1 1 (.ref 2) = some (zm_4 E) := pF_x (fs := dfl 1) (zh_3_1 E) rfl rfl
def zm_5 (E : Nat → MCQ) : Mem := addC (zm_4 E) 10 (ARt 0 10)
theorem zl_4 (E : Nat → MCQ) : (zm_4 E).1 = 3 := rfl
theorem za_5 (E : Nat → MCQ) : newA (zm_4 E) 0 10 = some (3, zm_5 E) := nA_x (n := 10) (by decide) (zl_4 E)
def zm_6 (E : Nat → MCQ) : Mem := setC (zm_5 E) 1 (.inr (1, [.int 0, .ref 2, .int 0, .ref 3, .null, .null, .null, .null, .null, .null, .int 0, .null, .null, .null, .int 0, .null, .int 0]))
theorem zh_5_1 (E : Nat → MCQ) : (zm_5 E).2.2 1 = .inr (1, [.int 0, .ref 2, .int 0, .null, .null, .null, .null, .null, .null, .null, .int 0, .null, .null, .null, .int 0, .null, .int 0]) := rfl
theorem za_6 (E : Nat → MCQ) : pF (zm_5 E) 1 1 3 (.ref 3) = some (zm_6 E) := pF_x (fs := [.int 0, .ref 2, .int 0, .null, .null, .null, .null, .null, .null, .null, .int 0, .null, .null, .null, .int 0, .null, .int 0]) (zh_5_1 E) rfl rfl
def zm_7 (E : Nat → MCQ) : Mem := addC (zm_6 E) 10 (ARt 0 10)
theorem zl_6 (E : Nat → MCQ) : (zm_6 E).1 = 4 := rfl
theorem za_7 (E : Nat → MCQ) : newA (zm_6 E) 0 10 = some (4, zm_7 E) := nA_x (n := 10) (by decide) (zl_6 E)
def zm_8 (E : Nat → MCQ) : Mem := setC (zm_7 E) 1 (.inr (1, [.int 0, .ref 2, .int 0, .ref 3, .ref 4, .null, .null, .null, .null, .null, .int 0, .null, .null, .null, .int 0, .null, .int 0]))
theorem zh_7_1 (E : Nat → MCQ) : (zm_7 E).2.2 1 = .inr (1, [.int 0, .ref 2, .int 0, .ref 3, .null, .null, .null, .null, .null, .null, .int 0, .null, .null, .null, .int 0, .null, .int 0]) := rfl
theorem za_8 (E : Nat → MCQ) : pF (zm_7 E) 1 1 4 (.ref 4) = some (zm_8 E) := pF_x (fs := [.int 0, .ref 2, .int 0, .ref 3, .null, .null, .null, .null, .null, .null, .int 0, .null, .null, .null, .int 0, .null, .int 0]) (zh_7_1 E) rfl rfl
def zm_9 (E : Nat → MCQ) : Mem := addC (zm_8 E) 10 (ARt 0 10)
theorem zl_8 (E : Nat → MCQ) : (zm_8 E).1 = 5 := rfl
theorem za_9 (E : Nat → MCQ) : newA (zm_8 E) 0 10 = some (5, zm_9 E) := nA_x (n := 10) (by decide) (zl_8 E)
def zm_10 (E : Nat → MCQ) : Mem := setC (zm_9 E) 1 (.inr (1, [.int 0, .ref 2, .int 0, .ref 3, .ref 4, .ref 5, .null, .null, .null, .null, .int 0, .null, .null, .null, .int 0, .null, .int 0]))
theorem zh_9_1 (E : Nat → MCQ) : (zm_9 E).2.2 1 = .inr (1, [.int 0, .ref 2, .int 0, .ref 3, .ref 4, .null, .null, .null, .null, .null, .int 0, .null, .null, .null, .int 0, .null, .int 0]) := rfl
theorem za_10 (E : Nat → MCQ) : pF (zm_9 E) 1 1 5 (.ref 5) = some (zm_10 E) := pF_x (fs := [.int 0, .ref 2, .int 0, .ref 3, .ref 4, .null, .null, .null, .null, .null, .int 0, .null, .null, .null, .int 0, .null, .int 0]) (zh_9_1 E) rfl rfl
def zm_11 (E : Nat → MCQ) : Mem := addC (zm_10 E) 10 (ARt 0 10)
theorem zl_10 (E : Nat → MCQ) : (zm_10 E).1 = 6 := rfl
theorem za_11 (E : Nat → MCQ) : newA (zm_10 E) 0 10 = some (6, zm_11 E) := nA_x (n := 10) (by decide) (zl_10 E)
def zm_12 (E : Nat → MCQ) : Mem := setC (zm_11 E) 1 (.inr (1, [.int 0, .ref 2, .int 0, .ref 3, .ref 4, .ref 5, .ref 6, .null, .null, .null, .int 0, .null, .null, .null, .int 0, .null, .int 0]))
theorem zh_11_1 (E : Nat → MCQ) : (zm_11 E).2.2 1 = .inr (1, [.int 0, .ref 2, .int 0, .ref 3, .ref 4, .ref 5, .null, .null, .null, .null, .int 0, .null, .null, .null, .int 0, .null, .int 0]) := rfl
theorem za_12 (E : Nat → MCQ) : pF (zm_11 E) 1 1 6 (.ref 6) = some (zm_12 E) := pF_x (fs := [.int 0, .ref 2, .int 0, .ref 3, .ref 4, .ref 5, .null, .null, .null, .null, .int 0, .null, .null, .null, .int 0, .null, .int 0]) (zh_11_1 E) rfl rfl
def zm_13 (E : Nat → MCQ) : Mem := addC (zm_12 E) 10 (ARt 0 10)
theorem zl_12 (E : Nat → MCQ) : (zm_12 E).1 = 7 := rfl
theorem za_13 (E : Nat → MCQ) : newA (zm_12 E) 0 10 = some (7, zm_13 E) := nA_x (n := 10) (by decide) (zl_12 E)
def zm_14 (E : Nat → MCQ) : Mem := setC (zm_13 E) 1 (.inr (1, [.int 0, .ref 2, .int 0, .ref 3, .ref 4, .ref 5, .ref 6, .ref 7, .null, .null, .int 0, .null, .null, .null, .int 0, .null, .int 0]))
theorem zh_13_1 (E : Nat → MCQ) : (zm_13 E).2.2 1 = .inr (1, [.int 0, .ref 2, .int 0, .ref 3, .ref 4, .ref 5, .ref 6, .null, .null, .null, .int 0, .null, .null, .null, .int 0, .null, .int 0]) := rfl
theorem za_14 (E : Nat → MCQ) : pF (zm_13 E) 1 1 7 (.ref 7) = some (zm_14 E) := pF_x (fs := [.int 0, .ref 2, .int 0, .ref 3, .ref 4, .ref 5, .ref 6, .null, .null, .null, .int 0, .null, .null, .null, .int 0, .null, .int 0]) (zh_13_1 E) rfl rfl
def zm_15 (E : Nat → MCQ) : Mem := addC (zm_14 E) 10 (ARt 0 10)
theorem zl_14 (E : Nat → MCQ) : (zm_14 E).1 = 8 := rfl
theorem za_15 (E : Nat → MCQ) : newA (zm_14 E) 0 10 = some (8, zm_15 E) := nA_x (n := 10) (by decide) (zl_14 E)
def zm_16 (E : Nat → MCQ) : Mem := setC (zm_15 E) 1 (.inr (1, [.int 0, .ref 2, .int 0, .ref 3, .ref 4, .ref 5, .ref 6, .ref 7, .ref 8, .null, .int 0, .null, .null, .null, .int 0, .null, .int 0]))
theorem zh_15_1 (E : Nat → MCQ) : (zm_15 E).2.2 1 = .inr (1, [.int 0, .ref 2, .int 0, .ref 3, .ref 4, .ref 5, .ref 6, .ref 7, .null, .null, .int 0, .null, .null, .null, .int 0, .null, .int 0]) := rfl
theorem za_16 (E : Nat → MCQ) : pF (zm_15 E) 1 1 8 (.ref 8) = some (zm_16 E) := pF_x (fs := [.int 0, .ref 2, .int 0, .ref 3, .ref 4, .ref 5, .ref 6, .ref 7, .null, .null, .int 0, .null, .null, .null, .int 0, .null, .int 0]) (zh_15_1 E) rfl rfl
def zm_17 (E : Nat → MCQ) : Mem := addC (zm_16 E) 10 (ARt 0 10)
theorem zl_16 (E : Nat → MCQ) : (zm_16 E).1 = 9 := rfl
theorem za_17 (E : Nat → MCQ) : newA (zm_16 E) 0 10 = some (9, zm_17 E) := nA_x (n := 10) (by decide) (zl_16 E)
def zm_18 (E : Nat → MCQ) : Mem := setC (zm_17 E) 1 (.inr (1, [.int 0, .ref 2, .int 0, .ref 3, .ref 4, .ref 5, .ref 6, .ref 7, .ref 8, .ref 9, .int 0, .null, .null, .null, .int 0, .null, .int 0]))
theorem zh_17_1 (E : Nat → MCQ) : (zm_17 E).2.2 1 = .inr (1, [.int 0, .ref 2, .int 0, .ref 3, .ref 4, .ref 5, .ref 6, .ref 7, .ref 8, .null, .int 0, .null, .null, .null, .int 0, .null, .int 0]) := rfl
theorem za_18 (E : Nat → MCQ) : pF (zm_17 E) 1 1 9 (.ref 9) = some (zm_18 E) := pF_x (fs := [.int 0, .ref 2, .int 0, .ref 3, .ref 4, .ref 5, .ref 6, .ref 7, .ref 8, .null, .int 0, .null, .null, .null, .int 0, .null, .int 0]) (zh_17_1 E) rfl rfl
def zm_19 (E : Nat → MCQ) : Mem := addC (zm_18 E) 10 (ARt 0 10)
theorem zl_18 (E : Nat → MCQ) : (zm_18 E).1 = 10 := rfl
theorem za_19 (E : Nat → MCQ) : newA (zm_18 E) 0 10 = some (10, zm_19 E) := nA_x (n := 10) (by decide) (zl_18 E)
def zm_20 (E : Nat → MCQ) : Mem := setC (zm_19 E) 1 (.inr (1, [.int 0, .ref 2, .int 0, .ref 3, .ref 4, .ref 5, .ref 6, .ref 7, .ref 8, .ref 9, .int 0, .ref 10, .null, .null, .int 0, .null, .int 0]))
theorem zh_19_1 (E : Nat → MCQ) : (zm_19 E).2.2 1 = .inr (1, [.int 0, .ref 2, .int 0, .ref 3, .ref 4, .ref 5, .ref 6, .ref 7, .ref 8, .ref 9, .int 0, .null, .null, .null, .int 0, .null, .int 0]) := rfl
theorem za_20 (E : Nat → MCQ) : pF (zm_19 E) 1 1 11 (.ref 10) = some (zm_20 E) := pF_x (fs := [.int 0, .ref 2, .int 0, .ref 3, .ref 4, .ref 5, .ref 6, .ref 7, .ref 8, .ref 9, .int 0, .null, .null, .null, .int 0, .null, .int 0]) (zh_19_1 E) rfl rfl
def zm_21 (E : Nat → MCQ) : Mem := addC (zm_20 E) 10 (ARt 0 10)
theorem zl_20 (E : Nat → MCQ) : (zm_20 E).1 = 11 := rfl
theorem za_21 (E : Nat → MCQ) : newA (zm_20 E) 0 10 = some (11, zm_21 E) := nA_x (n := 10) (by decide) (zl_20 E)
def zm_22 (E : Nat → MCQ) : Mem := setC (zm_21 E) 1 (.inr (1, [.int 0, .ref 2, .int 0, .ref 3, .ref 4, .ref 5, .ref 6, .ref 7, .ref 8, .ref 9, .int 0, .ref 10, .ref 11, .null, .int 0, .null, .int 0]))
theorem zh_21_1 (E : Nat → MCQ) : (zm_21 E).2.2 1 = .inr (1, [.int 0, .ref 2, .int 0, .ref 3, .ref 4, .ref 5, .ref 6, .ref 7, .ref 8, .ref 9, .int 0, .ref 10, .null, .null, .int 0, .null, .int 0]) := rfl
theorem za_22 (E : Nat → MCQ) : pF (zm_21 E) 1 1 12 (.ref 11) = some (zm_22 E) := pF_x (fs := [.int 0, .ref 2, .int 0, .ref 3, .ref 4, .ref 5, .ref 6, .ref 7, .ref 8, .ref 9, .int 0, .ref 10, .null, .null, .int 0, .null, .int 0]) (zh_21_1 E) rfl rfl
def zm_23 (E : Nat → MCQ) : Mem := addC (zm_22 E) 3 (ARt 0 3)
theorem zl_22 (E : Nat → MCQ) : (zm_22 E).1 = 12 := rfl
theorem za_23 (E : Nat → MCQ) : newA (zm_22 E) 0 3 = some (12, zm_23 E) := nA_x (n := 3) (by decide) (zl_22 E)
def zm_24 (E : Nat → MCQ) : Mem := setC (zm_23 E) 1 (.inr (1, [.int 0, .ref 2, .int 0, .ref 3, .ref 4, .ref 5, .ref 6, .ref 7, .ref 8, .ref 9, .int 0, .ref 10, .ref 11, .ref 12, .int 0, .null, .int 0]))
theorem zh_23_1 (E : Nat → MCQ) : (zm_23 E).2.2 1 = .inr (1, [.int 0, .ref 2, .int 0, .ref 3, .ref 4, .ref 5, .ref 6, .ref 7, .ref 8, .ref 9, .int 0, .ref 10, .ref 11, .null, .int 0, .null, .int 0]) := rfl
theorem za_24 (E : Nat → MCQ) : pF (zm_23 E) 1 1 13 (.ref 12) = some (zm_24 E) := pF_x (fs := [.int 0, .ref 2, .int 0, .ref 3, .ref 4, .ref 5, .ref 6, .ref 7, .ref 8, .ref 9, .int 0, .ref 10, .ref 11, .null, .int 0, .null, .int 0]) (zh_23_1 E) rfl rfl
def zm_25 (E : Nat → MCQ) : Mem := addC (zm_24 E) 6 (ARt 4 6)
theorem zl_24 (E : Nat → MCQ) : (zm_24 E).1 = 13 := rfl
theorem za_25 (E : Nat → MCQ) : newA (zm_24 E) 4 6 = some (13, zm_25 E) := nA_x (n := 6) (by decide) (zl_24 E)
def zm_26 (E : Nat → MCQ) : Mem := setC (zm_25 E) 1 (.inr (1, [.int 0, .ref 2, .int 0, .ref 3, .ref 4, .ref 5, .ref 6, .ref 7, .ref 8, .ref 9, .int 0, .ref 10, .ref 11, .ref 12, .int 0, .ref 13, .int 0]))
theorem zh_25_1 (E : Nat → MCQ) : (zm_25 E).2.2 1 = .inr (1, [.int 0, .ref 2, .int 0, .ref 3, .ref 4, .ref 5, .ref 6, .ref 7, .ref 8, .ref 9, .int 0, .ref 10, .ref 11, .ref 12, .int 0, .null, .int 0]) := rfl
theorem za_26 (E : Nat → MCQ) : pF (zm_25 E) 1 1 15 (.ref 13) = some (zm_26 E) := pF_x (fs := [.int 0, .ref 2, .int 0, .ref 3, .ref 4, .ref 5, .ref 6, .ref 7, .ref 8, .ref 9, .int 0, .ref 10, .ref 11, .ref 12, .int 0, .null, .int 0]) (zh_25_1 E) rfl rfl
def zm_27 (E : Nat → MCQ) : Mem := setC (zm_26 E) 1 (.inr (1, [.int 0, .ref 2, .int 0, .ref 3, .ref 4, .ref 5, .ref 6, .ref 7, .ref 8, .ref 9, .int 0, .ref 10, .ref 11, .ref 12, .int 0, .ref 13, .int (-1)]))
theorem zh_26_1 (E : Nat → MCQ) : (zm_26 E).2.2 1 = .inr (1, [.int 0, .ref 2, .int 0, .ref 3, .ref 4, .ref 5, .ref 6, .ref 7, .ref 8, .ref 9, .int 0, .ref 10, .ref 11, .ref 12, .int 0, .ref 13, .int 0]) := rfl
theorem za_27 (E : Nat → MCQ) : pF (zm_26 E) 1 1 16 (.int (-1)) = some (zm_27 E) := pF_x (fs := [.int 0, .ref 2, .int 0, .ref 3, .ref 4, .ref 5, .ref 6, .ref 7, .ref 8, .ref 9, .int 0, .ref 10, .ref 11, .ref 12, .int 0, .ref 13, .int 0]) (zh_26_1 E) rfl rfl
theorem zh_27_1 (E : Nat → MCQ) : (zm_27 E).2.2 1 = .inr (1, [.int 0, .ref 2, .int 0, .ref 3, .ref 4, .ref 5, .ref 6, .ref 7, .ref 8, .ref 9, .int 0, .ref 10, .ref 11, .ref 12, .int 0, .ref 13, .int (-1)]) := rfl
theorem zg_27_13 (E : Nat → MCQ) : gR (zm_27 E) 1 1 13 = some 12 := gR_x (fs := [.int 0, .ref 2, .int 0, .ref 3, .ref 4, .ref 5, .ref 6, .ref 7, .ref 8, .ref 9, .int 0, .ref 10, .ref 11, .ref 12, .int 0, .ref 13, .int (-1)]) (zh_27_1 E) rfl
def zw_1 : Nat → Int32 := upd (fun _ => 0) 1 2
def zm_28 (E : Nat → MCQ) : Mem := setC (zm_27 E) 12 (.inl (0, 3, .inl zw_1))
theorem zh_27_12 (E : Nat → MCQ) : (zm_27 E).2.2 12 = ARt 0 3 := rfl
theorem za_28 (E : Nat → MCQ) : sI (zm_27 E) 12 1 2 = some (zm_28 E) := sI_x (i := 1) (n := 3) (f := (fun _ => 0)) (zh_27_12 E) (by decide) (by decide)
theorem tz_Chest_init_1 (E : Nat → MCQ) (d : Nat) : EC (d + 2) mChest_init [.ref 1] (zm_2 E) = some (none, zm_28 E) := by
  rw [q_Chest_init]
  simp -dsimp only [hO_s, hV_s, cond_true, za_3, za_4, za_5, za_6, za_7, za_8, za_9, za_10, za_11, za_12, za_13, za_14, za_15, za_16, za_17, za_18, za_19, za_20, za_21, za_22, za_23, za_24, za_25, za_26, za_27, zg_27_13, za_28]
def zm_29 (E : Nat → MCQ) : Mem := setC (zm_28 E) 0 (.inr (8, [.ref 1, .null, .null, .null, .null, .null, .null, .int 0, .null, .null, .null, .null, .null, .int 0, .int 0, .int 0, .int 0, .int 0, .int 0, .null]))
theorem zh_28_0 (E : Nat → MCQ) : (zm_28 E).2.2 0 = .inr (8, dfl 8) := rfl
theorem za_29 (E : Nat → MCQ) : pF (zm_28 E) 8 0 0 (.ref 1) = some (zm_29 E) := pF_x (fs := dfl 8) (zh_28_0 E) rfl rfl
def zm_30 (E : Nat → MCQ) : Mem := addC (zm_29 E) 17 (.inr (1, dfl 1))
theorem za_30 (E : Nat → MCQ) : addC (zm_29 E) 17 (.inr (1, dfl 1)) = zm_30 E := rfl
theorem zl_29 (E : Nat → MCQ) : (zm_29 E).1 = 14 := rfl
theorem zn_30 (E : Nat → MCQ) : (zm_29 E).1 = 14 := zl_29 E
theorem zi_30 (E : Nat → MCQ) : isC (zm_30 E) 1 14 = true := rfl
def zm_31 (E : Nat → MCQ) : Mem := addC (zm_30 E) 6 (ARt 0 6)
theorem zl_30 (E : Nat → MCQ) : (zm_30 E).1 = 15 := rfl
theorem za_31 (E : Nat → MCQ) : newA (zm_30 E) 0 6 = some (15, zm_31 E) := nA_x (n := 6) (by decide) (zl_30 E)
def zm_32 (E : Nat → MCQ) : Mem := setC (zm_31 E) 14 (.inr (1, [.int 0, .ref 15, .int 0, .null, .null, .null, .null, .null, .null, .null, .int 0, .null, .null, .null, .int 0, .null, .int 0]))
theorem zh_31_14 (E : Nat → MCQ) : (zm_31 E).2.2 14 = .inr (1, dfl 1) := rfl
theorem za_32 (E : Nat → MCQ) : pF (zm_31 E) 1 14 1 (.ref 15) = some (zm_32 E) := pF_x (fs := dfl 1) (zh_31_14 E) rfl rfl
def zm_33 (E : Nat → MCQ) : Mem := addC (zm_32 E) 10 (ARt 0 10)
theorem zl_32 (E : Nat → MCQ) : (zm_32 E).1 = 16 := rfl
theorem za_33 (E : Nat → MCQ) : newA (zm_32 E) 0 10 = some (16, zm_33 E) := nA_x (n := 10) (by decide) (zl_32 E)
def zm_34 (E : Nat → MCQ) : Mem := setC (zm_33 E) 14 (.inr (1, [.int 0, .ref 15, .int 0, .ref 16, .null, .null, .null, .null, .null, .null, .int 0, .null, .null, .null, .int 0, .null, .int 0]))
theorem zh_33_14 (E : Nat → MCQ) : (zm_33 E).2.2 14 = .inr (1, [.int 0, .ref 15, .int 0, .null, .null, .null, .null, .null, .null, .null, .int 0, .null, .null, .null, .int 0, .null, .int 0]) := rfl
theorem za_34 (E : Nat → MCQ) : pF (zm_33 E) 1 14 3 (.ref 16) = some (zm_34 E) := pF_x (fs := [.int 0, .ref 15, .int 0, .null, .null, .null, .null, .null, .null, .null, .int 0, .null, .null, .null, .int 0, .null, .int 0]) (zh_33_14 E) rfl rfl
def zm_35 (E : Nat → MCQ) : Mem := addC (zm_34 E) 10 (ARt 0 10)
theorem zl_34 (E : Nat → MCQ) : (zm_34 E).1 = 17 := rfl
theorem za_35 (E : Nat → MCQ) : newA (zm_34 E) 0 10 = some (17, zm_35 E) := nA_x (n := 10) (by decide) (zl_34 E)
def zm_36 (E : Nat → MCQ) : Mem := setC (zm_35 E) 14 (.inr (1, [.int 0, .ref 15, .int 0, .ref 16, .ref 17, .null, .null, .null, .null, .null, .int 0, .null, .null, .null, .int 0, .null, .int 0]))
theorem zh_35_14 (E : Nat → MCQ) : (zm_35 E).2.2 14 = .inr (1, [.int 0, .ref 15, .int 0, .ref 16, .null, .null, .null, .null, .null, .null, .int 0, .null, .null, .null, .int 0, .null, .int 0]) := rfl
theorem za_36 (E : Nat → MCQ) : pF (zm_35 E) 1 14 4 (.ref 17) = some (zm_36 E) := pF_x (fs := [.int 0, .ref 15, .int 0, .ref 16, .null, .null, .null, .null, .null, .null, .int 0, .null, .null, .null, .int 0, .null, .int 0]) (zh_35_14 E) rfl rfl
def zm_37 (E : Nat → MCQ) : Mem := addC (zm_36 E) 10 (ARt 0 10)
theorem zl_36 (E : Nat → MCQ) : (zm_36 E).1 = 18 := rfl
theorem za_37 (E : Nat → MCQ) : newA (zm_36 E) 0 10 = some (18, zm_37 E) := nA_x (n := 10) (by decide) (zl_36 E)
def zm_38 (E : Nat → MCQ) : Mem := setC (zm_37 E) 14 (.inr (1, [.int 0, .ref 15, .int 0, .ref 16, .ref 17, .ref 18, .null, .null, .null, .null, .int 0, .null, .null, .null, .int 0, .null, .int 0]))
theorem zh_37_14 (E : Nat → MCQ) : (zm_37 E).2.2 14 = .inr (1, [.int 0, .ref 15, .int 0, .ref 16, .ref 17, .null, .null, .null, .null, .null, .int 0, .null, .null, .null, .int 0, .null, .int 0]) := rfl
theorem za_38 (E : Nat → MCQ) : pF (zm_37 E) 1 14 5 (.ref 18) = some (zm_38 E) := pF_x (fs := [.int 0, .ref 15, .int 0, .ref 16, .ref 17, .null, .null, .null, .null, .null, .int 0, .null, .null, .null, .int 0, .null, .int 0]) (zh_37_14 E) rfl rfl
def zm_39 (E : Nat → MCQ) : Mem := addC (zm_38 E) 10 (ARt 0 10)
theorem zl_38 (E : Nat → MCQ) : (zm_38 E).1 = 19 := rfl
theorem za_39 (E : Nat → MCQ) : newA (zm_38 E) 0 10 = some (19, zm_39 E) := nA_x (n := 10) (by decide) (zl_38 E)
def zm_40 (E : Nat → MCQ) : Mem := setC (zm_39 E) 14 (.inr (1, [.int 0, .ref 15, .int 0, .ref 16, .ref 17, .ref 18, .ref 19, .null, .null, .null, .int 0, .null, .null, .null, .int 0, .null, .int 0]))
theorem zh_39_14 (E : Nat → MCQ) : (zm_39 E).2.2 14 = .inr (1, [.int 0, .ref 15, .int 0, .ref 16, .ref 17, .ref 18, .null, .null, .null, .null, .int 0, .null, .null, .null, .int 0, .null, .int 0]) := rfl
theorem za_40 (E : Nat → MCQ) : pF (zm_39 E) 1 14 6 (.ref 19) = some (zm_40 E) := pF_x (fs := [.int 0, .ref 15, .int 0, .ref 16, .ref 17, .ref 18, .null, .null, .null, .null, .int 0, .null, .null, .null, .int 0, .null, .int 0]) (zh_39_14 E) rfl rfl
def zm_41 (E : Nat → MCQ) : Mem := addC (zm_40 E) 10 (ARt 0 10)
theorem zl_40 (E : Nat → MCQ) : (zm_40 E).1 = 20 := rfl
theorem za_41 (E : Nat → MCQ) : newA (zm_40 E) 0 10 = some (20, zm_41 E) := nA_x (n := 10) (by decide) (zl_40 E)
def zm_42 (E : Nat → MCQ) : Mem := setC (zm_41 E) 14 (.inr (1, [.int 0, .ref 15, .int 0, .ref 16, .ref 17, .ref 18, .ref 19, .ref 20, .null, .null, .int 0, .null, .null, .null, .int 0, .null, .int 0]))
theorem zh_41_14 (E : Nat → MCQ) : (zm_41 E).2.2 14 = .inr (1, [.int 0, .ref 15, .int 0, .ref 16, .ref 17, .ref 18, .ref 19, .null, .null, .null, .int 0, .null, .null, .null, .int 0, .null, .int 0]) := rfl
theorem za_42 (E : Nat → MCQ) : pF (zm_41 E) 1 14 7 (.ref 20) = some (zm_42 E) := pF_x (fs := [.int 0, .ref 15, .int 0, .ref 16, .ref 17, .ref 18, .ref 19, .null, .null, .null, .int 0, .null, .null, .null, .int 0, .null, .int 0]) (zh_41_14 E) rfl rfl
def zm_43 (E : Nat → MCQ) : Mem := addC (zm_42 E) 10 (ARt 0 10)
theorem zl_42 (E : Nat → MCQ) : (zm_42 E).1 = 21 := rfl
theorem za_43 (E : Nat → MCQ) : newA (zm_42 E) 0 10 = some (21, zm_43 E) := nA_x (n := 10) (by decide) (zl_42 E)
def zm_44 (E : Nat → MCQ) : Mem := setC (zm_43 E) 14 (.inr (1, [.int 0, .ref 15, .int 0, .ref 16, .ref 17, .ref 18, .ref 19, .ref 20, .ref 21, .null, .int 0, .null, .null, .null, .int 0, .null, .int 0]))
theorem zh_43_14 (E : Nat → MCQ) : (zm_43 E).2.2 14 = .inr (1, [.int 0, .ref 15, .int 0, .ref 16, .ref 17, .ref 18, .ref 19, .ref 20, .null, .null, .int 0, .null, .null, .null, .int 0, .null, .int 0]) := rfl
theorem za_44 (E : Nat → MCQ) : pF (zm_43 E) 1 14 8 (.ref 21) = some (zm_44 E) := pF_x (fs := [.int 0, .ref 15, .int 0, .ref 16, .ref 17, .ref 18, .ref 19, .ref 20, .null, .null, .int 0, .null, .null, .null, .int 0, .null, .int 0]) (zh_43_14 E) rfl rfl
def zm_45 (E : Nat → MCQ) : Mem := addC (zm_44 E) 10 (ARt 0 10)
theorem zl_44 (E : Nat → MCQ) : (zm_44 E).1 = 22 := rfl
theorem za_45 (E : Nat → MCQ) : newA (zm_44 E) 0 10 = some (22, zm_45 E) := nA_x (n := 10) (by decide) (zl_44 E)
def zm_46 (E : Nat → MCQ) : Mem := setC (zm_45 E) 14 (.inr (1, [.int 0, .ref 15, .int 0, .ref 16, .ref 17, .ref 18, .ref 19, .ref 20, .ref 21, .ref 22, .int 0, .null, .null, .null, .int 0, .null, .int 0]))
theorem zh_45_14 (E : Nat → MCQ) : (zm_45 E).2.2 14 = .inr (1, [.int 0, .ref 15, .int 0, .ref 16, .ref 17, .ref 18, .ref 19, .ref 20, .ref 21, .null, .int 0, .null, .null, .null, .int 0, .null, .int 0]) := rfl
theorem za_46 (E : Nat → MCQ) : pF (zm_45 E) 1 14 9 (.ref 22) = some (zm_46 E) := pF_x (fs := [.int 0, .ref 15, .int 0, .ref 16, .ref 17, .ref 18, .ref 19, .ref 20, .ref 21, .null, .int 0, .null, .null, .null, .int 0, .null, .int 0]) (zh_45_14 E) rfl rfl
def zm_47 (E : Nat → MCQ) : Mem := addC (zm_46 E) 10 (ARt 0 10)
theorem zl_46 (E : Nat → MCQ) : (zm_46 E).1 = 23 := rfl
theorem za_47 (E : Nat → MCQ) : newA (zm_46 E) 0 10 = some (23, zm_47 E) := nA_x (n := 10) (by decide) (zl_46 E)
def zm_48 (E : Nat → MCQ) : Mem := setC (zm_47 E) 14 (.inr (1, [.int 0, .ref 15, .int 0, .ref 16, .ref 17, .ref 18, .ref 19, .ref 20, .ref 21, .ref 22, .int 0, .ref 23, .null, .null, .int 0, .null, .int 0]))
theorem zh_47_14 (E : Nat → MCQ) : (zm_47 E).2.2 14 = .inr (1, [.int 0, .ref 15, .int 0, .ref 16, .ref 17, .ref 18, .ref 19, .ref 20, .ref 21, .ref 22, .int 0, .null, .null, .null, .int 0, .null, .int 0]) := rfl
theorem za_48 (E : Nat → MCQ) : pF (zm_47 E) 1 14 11 (.ref 23) = some (zm_48 E) := pF_x (fs := [.int 0, .ref 15, .int 0, .ref 16, .ref 17, .ref 18, .ref 19, .ref 20, .ref 21, .ref 22, .int 0, .null, .null, .null, .int 0, .null, .int 0]) (zh_47_14 E) rfl rfl
def zm_49 (E : Nat → MCQ) : Mem := addC (zm_48 E) 10 (ARt 0 10)
theorem zl_48 (E : Nat → MCQ) : (zm_48 E).1 = 24 := rfl
theorem za_49 (E : Nat → MCQ) : newA (zm_48 E) 0 10 = some (24, zm_49 E) := nA_x (n := 10) (by decide) (zl_48 E)
def zm_50 (E : Nat → MCQ) : Mem := setC (zm_49 E) 14 (.inr (1, [.int 0, .ref 15, .int 0, .ref 16, .ref 17, .ref 18, .ref 19, .ref 20, .ref 21, .ref 22, .int 0, .ref 23, .ref 24, .null, .int 0, .null, .int 0]))
theorem zh_49_14 (E : Nat → MCQ) : (zm_49 E).2.2 14 = .inr (1, [.int 0, .ref 15, .int 0, .ref 16, .ref 17, .ref 18, .ref 19, .ref 20, .ref 21, .ref 22, .int 0, .ref 23, .null, .null, .int 0, .null, .int 0]) := rfl
theorem za_50 (E : Nat → MCQ) : pF (zm_49 E) 1 14 12 (.ref 24) = some (zm_50 E) := pF_x (fs := [.int 0, .ref 15, .int 0, .ref 16, .ref 17, .ref 18, .ref 19, .ref 20, .ref 21, .ref 22, .int 0, .ref 23, .null, .null, .int 0, .null, .int 0]) (zh_49_14 E) rfl rfl
def zm_51 (E : Nat → MCQ) : Mem := addC (zm_50 E) 3 (ARt 0 3)
theorem zl_50 (E : Nat → MCQ) : (zm_50 E).1 = 25 := rfl
theorem za_51 (E : Nat → MCQ) : newA (zm_50 E) 0 3 = some (25, zm_51 E) := nA_x (n := 3) (by decide) (zl_50 E)
def zm_52 (E : Nat → MCQ) : Mem := setC (zm_51 E) 14 (.inr (1, [.int 0, .ref 15, .int 0, .ref 16, .ref 17, .ref 18, .ref 19, .ref 20, .ref 21, .ref 22, .int 0, .ref 23, .ref 24, .ref 25, .int 0, .null, .int 0]))
theorem zh_51_14 (E : Nat → MCQ) : (zm_51 E).2.2 14 = .inr (1, [.int 0, .ref 15, .int 0, .ref 16, .ref 17, .ref 18, .ref 19, .ref 20, .ref 21, .ref 22, .int 0, .ref 23, .ref 24, .null, .int 0, .null, .int 0]) := rfl
theorem za_52 (E : Nat → MCQ) : pF (zm_51 E) 1 14 13 (.ref 25) = some (zm_52 E) := pF_x (fs := [.int 0, .ref 15, .int 0, .ref 16, .ref 17, .ref 18, .ref 19, .ref 20, .ref 21, .ref 22, .int 0, .ref 23, .ref 24, .null, .int 0, .null, .int 0]) (zh_51_14 E) rfl rfl
def zm_53 (E : Nat → MCQ) : Mem := addC (zm_52 E) 6 (ARt 4 6)
theorem zl_52 (E : Nat → MCQ) : (zm_52 E).1 = 26 := rfl
theorem za_53 (E : Nat → MCQ) : newA (zm_52 E) 4 6 = some (26, zm_53 E) := nA_x (n := 6) (by decide) (zl_52 E)
def zm_54 (E : Nat → MCQ) : Mem := setC (zm_53 E) 14 (.inr (1, [.int 0, .ref 15, .int 0, .ref 16, .ref 17, .ref 18, .ref 19, .ref 20, .ref 21, .ref 22, .int 0, .ref 23, .ref 24, .ref 25, .int 0, .ref 26, .int 0]))
theorem zh_53_14 (E : Nat → MCQ) : (zm_53 E).2.2 14 = .inr (1, [.int 0, .ref 15, .int 0, .ref 16, .ref 17, .ref 18, .ref 19, .ref 20, .ref 21, .ref 22, .int 0, .ref 23, .ref 24, .ref 25, .int 0, .null, .int 0]) := rfl
theorem za_54 (E : Nat → MCQ) : pF (zm_53 E) 1 14 15 (.ref 26) = some (zm_54 E) := pF_x (fs := [.int 0, .ref 15, .int 0, .ref 16, .ref 17, .ref 18, .ref 19, .ref 20, .ref 21, .ref 22, .int 0, .ref 23, .ref 24, .ref 25, .int 0, .null, .int 0]) (zh_53_14 E) rfl rfl
def zm_55 (E : Nat → MCQ) : Mem := setC (zm_54 E) 14 (.inr (1, [.int 0, .ref 15, .int 0, .ref 16, .ref 17, .ref 18, .ref 19, .ref 20, .ref 21, .ref 22, .int 0, .ref 23, .ref 24, .ref 25, .int 0, .ref 26, .int (-1)]))
theorem zh_54_14 (E : Nat → MCQ) : (zm_54 E).2.2 14 = .inr (1, [.int 0, .ref 15, .int 0, .ref 16, .ref 17, .ref 18, .ref 19, .ref 20, .ref 21, .ref 22, .int 0, .ref 23, .ref 24, .ref 25, .int 0, .ref 26, .int 0]) := rfl
theorem za_55 (E : Nat → MCQ) : pF (zm_54 E) 1 14 16 (.int (-1)) = some (zm_55 E) := pF_x (fs := [.int 0, .ref 15, .int 0, .ref 16, .ref 17, .ref 18, .ref 19, .ref 20, .ref 21, .ref 22, .int 0, .ref 23, .ref 24, .ref 25, .int 0, .ref 26, .int 0]) (zh_54_14 E) rfl rfl
theorem zh_55_14 (E : Nat → MCQ) : (zm_55 E).2.2 14 = .inr (1, [.int 0, .ref 15, .int 0, .ref 16, .ref 17, .ref 18, .ref 19, .ref 20, .ref 21, .ref 22, .int 0, .ref 23, .ref 24, .ref 25, .int 0, .ref 26, .int (-1)]) := rfl
theorem zg_55_13 (E : Nat → MCQ) : gR (zm_55 E) 1 14 13 = some 25 := gR_x (fs := [.int 0, .ref 15, .int 0, .ref 16, .ref 17, .ref 18, .ref 19, .ref 20, .ref 21, .ref 22, .int 0, .ref 23, .ref 24, .ref 25, .int 0, .ref 26, .int (-1)]) (zh_55_14 E) rfl
def zw_2 : Nat → Int32 := upd (fun _ => 0) 1 2
def zm_56 (E : Nat → MCQ) : Mem := setC (zm_55 E) 25 (.inl (0, 3, .inl zw_2))
theorem zh_55_25 (E : Nat → MCQ) : (zm_55 E).2.2 25 = ARt 0 3 := rfl
theorem za_56 (E : Nat → MCQ) : sI (zm_55 E) 25 1 2 = some (zm_56 E) := sI_x (i := 1) (n := 3) (f := (fun _ => 0)) (zh_55_25 E) (by decide) (by decide)
theorem tz_Chest_init_14 (E : Nat → MCQ) (d : Nat) : EC (d + 2) mChest_init [.ref 14] (zm_30 E) = some (none, zm_56 E) := by
  rw [q_Chest_init]
  simp -dsimp only [hO_s, hV_s, cond_true, za_31, za_32, za_33, za_34, za_35, za_36, za_37, za_38, za_39, za_40, za_41, za_42, za_43, za_44, za_45, za_46, za_47, za_48, za_49, za_50, za_51, za_52, za_53, za_54, za_55, zg_55_13, za_56]
def zm_57 (E : Nat → MCQ) : Mem := setC (zm_56 E) 0 (.inr (8, [.ref 1, .ref 14, .null, .null, .null, .null, .null, .int 0, .null, .null, .null, .null, .null, .int 0, .int 0, .int 0, .int 0, .int 0, .int 0, .null]))
theorem zh_56_0 (E : Nat → MCQ) : (zm_56 E).2.2 0 = .inr (8, [.ref 1, .null, .null, .null, .null, .null, .null, .int 0, .null, .null, .null, .null, .null, .int 0, .int 0, .int 0, .int 0, .int 0, .int 0, .null]) := rfl
theorem za_57 (E : Nat → MCQ) : pF (zm_56 E) 8 0 1 (.ref 14) = some (zm_57 E) := pF_x (fs := [.ref 1, .null, .null, .null, .null, .null, .null, .int 0, .null, .null, .null, .null, .null, .int 0, .int 0, .int 0, .int 0, .int 0, .int 0, .null]) (zh_56_0 E) rfl rfl
def zm_58 (E : Nat → MCQ) : Mem := addC (zm_57 E) 2 (ARt 5 2)
theorem zl_57 (E : Nat → MCQ) : (zm_57 E).1 = 27 := rfl
theorem za_58 (E : Nat → MCQ) : newA (zm_57 E) 5 2 = some (27, zm_58 E) := nA_x (n := 2) (by decide) (zl_57 E)
def zm_59 (E : Nat → MCQ) : Mem := setC (zm_58 E) 0 (.inr (8, [.ref 1, .ref 14, .ref 27, .null, .null, .null, .null, .int 0, .null, .null, .null, .null, .null, .int 0, .int 0, .int 0, .int 0, .int 0, .int 0, .null]))
theorem zh_58_0 (E : Nat → MCQ) : (zm_58 E).2.2 0 = .inr (8, [.ref 1, .ref 14, .null, .null, .null, .null, .null, .int 0, .null, .null, .null, .null, .null, .int 0, .int 0, .int 0, .int 0, .int 0, .int 0, .null]) := rfl
theorem za_59 (E : Nat → MCQ) : pF (zm_58 E) 8 0 2 (.ref 27) = some (zm_59 E) := pF_x (fs := [.ref 1, .ref 14, .null, .null, .null, .null, .null, .int 0, .null, .null, .null, .null, .null, .int 0, .int 0, .int 0, .int 0, .int 0, .int 0, .null]) (zh_58_0 E) rfl rfl
def zm_60 (E : Nat → MCQ) : Mem := addC (zm_59 E) 3 (.inr (3, dfl 3))
theorem za_60 (E : Nat → MCQ) : addC (zm_59 E) 3 (.inr (3, dfl 3)) = zm_60 E := rfl
theorem zl_59 (E : Nat → MCQ) : (zm_59 E).1 = 28 := rfl
theorem zn_60 (E : Nat → MCQ) : (zm_59 E).1 = 28 := zl_59 E
theorem zi_60 (E : Nat → MCQ) : isC (zm_60 E) 3 28 = true := rfl
def zm_61 (E : Nat → MCQ) : Mem := addC (zm_60 E) 119 (ARt 0 119)
theorem zl_60 (E : Nat → MCQ) : (zm_60 E).1 = 29 := rfl
theorem za_61 (E : Nat → MCQ) : newA (zm_60 E) 0 119 = some (29, zm_61 E) := nA_x (n := 119) (by decide) (zl_60 E)
def zm_62 (E : Nat → MCQ) : Mem := setC (zm_61 E) 28 (.inr (3, [.ref 29, .int 0, .int 0]))
theorem zh_61_28 (E : Nat → MCQ) : (zm_61 E).2.2 28 = .inr (3, dfl 3) := rfl
theorem za_62 (E : Nat → MCQ) : pF (zm_61 E) 3 28 0 (.ref 29) = some (zm_62 E) := pF_x (fs := dfl 3) (zh_61_28 E) rfl rfl
theorem tz_Deeds_init_28 (E : Nat → MCQ) (d : Nat) : EC (d + 2) mDeeds_init [.ref 28] (zm_60 E) = some (none, zm_62 E) := by
  rw [q_Deeds_init]
  simp -dsimp only [hO_s, hV_s, cond_true, za_61, za_62]
def zm_63 (E : Nat → MCQ) : Mem := setC (zm_62 E) 0 (.inr (8, [.ref 1, .ref 14, .ref 27, .null, .ref 28, .null, .null, .int 0, .null, .null, .null, .null, .null, .int 0, .int 0, .int 0, .int 0, .int 0, .int 0, .null]))
theorem zh_62_0 (E : Nat → MCQ) : (zm_62 E).2.2 0 = .inr (8, [.ref 1, .ref 14, .ref 27, .null, .null, .null, .null, .int 0, .null, .null, .null, .null, .null, .int 0, .int 0, .int 0, .int 0, .int 0, .int 0, .null]) := rfl
theorem za_63 (E : Nat → MCQ) : pF (zm_62 E) 8 0 4 (.ref 28) = some (zm_63 E) := pF_x (fs := [.ref 1, .ref 14, .ref 27, .null, .null, .null, .null, .int 0, .null, .null, .null, .null, .null, .int 0, .int 0, .int 0, .int 0, .int 0, .int 0, .null]) (zh_62_0 E) rfl rfl
def zm_64 (E : Nat → MCQ) : Mem := addC (zm_63 E) 3 (.inr (3, dfl 3))
theorem za_64 (E : Nat → MCQ) : addC (zm_63 E) 3 (.inr (3, dfl 3)) = zm_64 E := rfl
theorem zl_63 (E : Nat → MCQ) : (zm_63 E).1 = 30 := rfl
theorem zn_64 (E : Nat → MCQ) : (zm_63 E).1 = 30 := zl_63 E
theorem zi_64 (E : Nat → MCQ) : isC (zm_64 E) 3 30 = true := rfl
def zm_65 (E : Nat → MCQ) : Mem := addC (zm_64 E) 119 (ARt 0 119)
theorem zl_64 (E : Nat → MCQ) : (zm_64 E).1 = 31 := rfl
theorem za_65 (E : Nat → MCQ) : newA (zm_64 E) 0 119 = some (31, zm_65 E) := nA_x (n := 119) (by decide) (zl_64 E)
def zm_66 (E : Nat → MCQ) : Mem := setC (zm_65 E) 30 (.inr (3, [.ref 31, .int 0, .int 0]))
theorem zh_65_30 (E : Nat → MCQ) : (zm_65 E).2.2 30 = .inr (3, dfl 3) := rfl
theorem za_66 (E : Nat → MCQ) : pF (zm_65 E) 3 30 0 (.ref 31) = some (zm_66 E) := pF_x (fs := dfl 3) (zh_65_30 E) rfl rfl
theorem tz_Deeds_init_30 (E : Nat → MCQ) (d : Nat) : EC (d + 2) mDeeds_init [.ref 30] (zm_64 E) = some (none, zm_66 E) := by
  rw [q_Deeds_init]
  simp -dsimp only [hO_s, hV_s, cond_true, za_65, za_66]
def zm_67 (E : Nat → MCQ) : Mem := setC (zm_66 E) 0 (.inr (8, [.ref 1, .ref 14, .ref 27, .null, .ref 28, .ref 30, .null, .int 0, .null, .null, .null, .null, .null, .int 0, .int 0, .int 0, .int 0, .int 0, .int 0, .null]))
theorem zh_66_0 (E : Nat → MCQ) : (zm_66 E).2.2 0 = .inr (8, [.ref 1, .ref 14, .ref 27, .null, .ref 28, .null, .null, .int 0, .null, .null, .null, .null, .null, .int 0, .int 0, .int 0, .int 0, .int 0, .int 0, .null]) := rfl
theorem za_67 (E : Nat → MCQ) : pF (zm_66 E) 8 0 5 (.ref 30) = some (zm_67 E) := pF_x (fs := [.ref 1, .ref 14, .ref 27, .null, .ref 28, .null, .null, .int 0, .null, .null, .null, .null, .null, .int 0, .int 0, .int 0, .int 0, .int 0, .int 0, .null]) (zh_66_0 E) rfl rfl
def zm_68 (E : Nat → MCQ) : Mem := addC (zm_67 E) 400 (ARt 0 400)
theorem zl_67 (E : Nat → MCQ) : (zm_67 E).1 = 32 := rfl
theorem za_68 (E : Nat → MCQ) : newA (zm_67 E) 0 400 = some (32, zm_68 E) := nA_x (n := 400) (by decide) (zl_67 E)
def zm_69 (E : Nat → MCQ) : Mem := setC (zm_68 E) 0 (.inr (8, [.ref 1, .ref 14, .ref 27, .null, .ref 28, .ref 30, .ref 32, .int 0, .null, .null, .null, .null, .null, .int 0, .int 0, .int 0, .int 0, .int 0, .int 0, .null]))
theorem zh_68_0 (E : Nat → MCQ) : (zm_68 E).2.2 0 = .inr (8, [.ref 1, .ref 14, .ref 27, .null, .ref 28, .ref 30, .null, .int 0, .null, .null, .null, .null, .null, .int 0, .int 0, .int 0, .int 0, .int 0, .int 0, .null]) := rfl
theorem za_69 (E : Nat → MCQ) : pF (zm_68 E) 8 0 6 (.ref 32) = some (zm_69 E) := pF_x (fs := [.ref 1, .ref 14, .ref 27, .null, .ref 28, .ref 30, .null, .int 0, .null, .null, .null, .null, .null, .int 0, .int 0, .int 0, .int 0, .int 0, .int 0, .null]) (zh_68_0 E) rfl rfl
def zm_70 (E : Nat → MCQ) : Mem := addC (zm_69 E) 10 (.inr (6, dfl 6))
theorem za_70 (E : Nat → MCQ) : addC (zm_69 E) 10 (.inr (6, dfl 6)) = zm_70 E := rfl
theorem zl_69 (E : Nat → MCQ) : (zm_69 E).1 = 33 := rfl
theorem zn_70 (E : Nat → MCQ) : (zm_69 E).1 = 33 := zl_69 E
theorem zi_70 (E : Nat → MCQ) : isC (zm_70 E) 6 33 = true := rfl
def zm_71 (E : Nat → MCQ) : Mem := addC (zm_70 E) 4 (.inr (5, dfl 5))
theorem za_71 (E : Nat → MCQ) : addC (zm_70 E) 4 (.inr (5, dfl 5)) = zm_71 E := rfl
theorem zl_70 (E : Nat → MCQ) : (zm_70 E).1 = 34 := rfl
theorem zn_71 (E : Nat → MCQ) : (zm_70 E).1 = 34 := zl_70 E
theorem zi_71 (E : Nat → MCQ) : isC (zm_71 E) 5 34 = true := rfl
def zm_72 (E : Nat → MCQ) : Mem := addC (zm_71 E) 72 (ARt 0 72)
theorem zl_71 (E : Nat → MCQ) : (zm_71 E).1 = 35 := rfl
theorem za_72 (E : Nat → MCQ) : newA (zm_71 E) 0 (mxI 0 12 * 6) = some (35, zm_72 E) := nA_x (n := 72) (by decide) (zl_71 E)
def zm_73 (E : Nat → MCQ) : Mem := setC (zm_72 E) 34 (.inr (5, [.int 0, .int 0, .ref 35, .null]))
theorem zh_72_34 (E : Nat → MCQ) : (zm_72 E).2.2 34 = .inr (5, dfl 5) := rfl
theorem za_73 (E : Nat → MCQ) : pF (zm_72 E) 5 34 2 (.ref 35) = some (zm_73 E) := pF_x (fs := dfl 5) (zh_72_34 E) rfl rfl
def zm_74 (E : Nat → MCQ) : Mem := addC (zm_73 E) 400 (ARt 0 400)
theorem zl_73 (E : Nat → MCQ) : (zm_73 E).1 = 36 := rfl
theorem za_74 (E : Nat → MCQ) : newA (zm_73 E) 0 (mxI 0 400) = some (36, zm_74 E) := nA_x (n := 400) (by decide) (zl_73 E)
def zm_75 (E : Nat → MCQ) : Mem := setC (zm_74 E) 34 (.inr (5, [.int 0, .int 0, .ref 35, .ref 36]))
theorem zh_74_34 (E : Nat → MCQ) : (zm_74 E).2.2 34 = .inr (5, [.int 0, .int 0, .ref 35, .null]) := rfl
theorem za_75 (E : Nat → MCQ) : pF (zm_74 E) 5 34 3 (.ref 36) = some (zm_75 E) := pF_x (fs := [.int 0, .int 0, .ref 35, .null]) (zh_74_34 E) rfl rfl
theorem tz_Program_init_34 (E : Nat → MCQ) (d : Nat) : EC (d + 2) mProgram_init [.ref 34, .int 12, .int 400] (zm_71 E) = some (none, zm_75 E) := by
  rw [q_Program_init]
  simp -dsimp only [hO_s, hV_s, cond_true, za_72, za_73, za_74, za_75]
def zm_76 (E : Nat → MCQ) : Mem := setC (zm_75 E) 33 (.inr (6, [.ref 34, .null, .int 0, .int 0, .int 0, .int 0, .int 0, .int 0, .int 0, .int 0]))
theorem zh_75_33 (E : Nat → MCQ) : (zm_75 E).2.2 33 = .inr (6, dfl 6) := rfl
theorem za_76 (E : Nat → MCQ) : pF (zm_75 E) 6 33 0 (.ref 34) = some (zm_76 E) := pF_x (fs := dfl 6) (zh_75_33 E) rfl rfl
def zm_77 (E : Nat → MCQ) : Mem := addC (zm_76 E) 0 (ARt 0 0)
theorem zl_76 (E : Nat → MCQ) : (zm_76 E).1 = 37 := rfl
theorem za_77 (E : Nat → MCQ) : newA (zm_76 E) 0 0 = some (37, zm_77 E) := nA_x (n := 0) (by decide) (zl_76 E)
def zm_78 (E : Nat → MCQ) : Mem := setC (zm_77 E) 33 (.inr (6, [.ref 34, .ref 37, .int 0, .int 0, .int 0, .int 0, .int 0, .int 0, .int 0, .int 0]))
theorem zh_77_33 (E : Nat → MCQ) : (zm_77 E).2.2 33 = .inr (6, [.ref 34, .null, .int 0, .int 0, .int 0, .int 0, .int 0, .int 0, .int 0, .int 0]) := rfl
theorem za_78 (E : Nat → MCQ) : pF (zm_77 E) 6 33 1 (.ref 37) = some (zm_78 E) := pF_x (fs := [.ref 34, .null, .int 0, .int 0, .int 0, .int 0, .int 0, .int 0, .int 0, .int 0]) (zh_77_33 E) rfl rfl
theorem tz_Reader_init_33 (E : Nat → MCQ) (d : Nat) : EC (d + 3) mReader_init [.ref 33] (zm_70 E) = some (none, zm_78 E) := by
  rw [q_Reader_init]
  simp -dsimp only [hO_s, hV_s, cond_true, za_71, zn_71, zi_71, tz_Program_init_34, za_76, za_77, za_78]
def zm_79 (E : Nat → MCQ) : Mem := setC (zm_78 E) 0 (.inr (8, [.ref 1, .ref 14, .ref 27, .null, .ref 28, .ref 30, .ref 32, .int 0, .ref 33, .null, .null, .null, .null, .int 0, .int 0, .int 0, .int 0, .int 0, .int 0, .null]))
theorem zh_78_0 (E : Nat → MCQ) : (zm_78 E).2.2 0 = .inr (8, [.ref 1, .ref 14, .ref 27, .null, .ref 28, .ref 30, .ref 32, .int 0, .null, .null, .null, .null, .null, .int 0, .int 0, .int 0, .int 0, .int 0, .int 0, .null]) := rfl
theorem za_79 (E : Nat → MCQ) : pF (zm_78 E) 8 0 8 (.ref 33) = some (zm_79 E) := pF_x (fs := [.ref 1, .ref 14, .ref 27, .null, .ref 28, .ref 30, .ref 32, .int 0, .null, .null, .null, .null, .null, .int 0, .int 0, .int 0, .int 0, .int 0, .int 0, .null]) (zh_78_0 E) rfl rfl
def zm_80 (E : Nat → MCQ) : Mem := addC (zm_79 E) 6 (.inr (7, dfl 7))
theorem za_80 (E : Nat → MCQ) : addC (zm_79 E) 6 (.inr (7, dfl 7)) = zm_80 E := rfl
theorem zl_79 (E : Nat → MCQ) : (zm_79 E).1 = 38 := rfl
theorem zn_80 (E : Nat → MCQ) : (zm_79 E).1 = 38 := zl_79 E
theorem zi_80 (E : Nat → MCQ) : isC (zm_80 E) 7 38 = true := rfl
def zm_81 (E : Nat → MCQ) : Mem := addC (zm_80 E) 64 (ARt 0 64)
theorem zl_80 (E : Nat → MCQ) : (zm_80 E).1 = 39 := rfl
theorem za_81 (E : Nat → MCQ) : newA (zm_80 E) 0 64 = some (39, zm_81 E) := nA_x (n := 64) (by decide) (zl_80 E)
def zm_82 (E : Nat → MCQ) : Mem := setC (zm_81 E) 38 (.inr (7, [.ref 39, .null, .int 0, .int 0, .int 0, .int 0]))
theorem zh_81_38 (E : Nat → MCQ) : (zm_81 E).2.2 38 = .inr (7, dfl 7) := rfl
theorem za_82 (E : Nat → MCQ) : pF (zm_81 E) 7 38 0 (.ref 39) = some (zm_82 E) := pF_x (fs := dfl 7) (zh_81_38 E) rfl rfl
def zm_83 (E : Nat → MCQ) : Mem := setC (zm_82 E) 38 (.inr (7, [.ref 39, .null, .int 0, .int (-1), .int 0, .int 0]))
theorem zh_82_38 (E : Nat → MCQ) : (zm_82 E).2.2 38 = .inr (7, [.ref 39, .null, .int 0, .int 0, .int 0, .int 0]) := rfl
theorem za_83 (E : Nat → MCQ) : pF (zm_82 E) 7 38 3 (.int (-1)) = some (zm_83 E) := pF_x (fs := [.ref 39, .null, .int 0, .int 0, .int 0, .int 0]) (zh_82_38 E) rfl rfl
def zm_84 (E : Nat → MCQ) : Mem := setC (zm_83 E) 38 (.inr (7, [.ref 39, .null, .int 0, .int (-1), .int 0, .int (-1)]))
theorem zh_83_38 (E : Nat → MCQ) : (zm_83 E).2.2 38 = .inr (7, [.ref 39, .null, .int 0, .int (-1), .int 0, .int 0]) := rfl
theorem za_84 (E : Nat → MCQ) : pF (zm_83 E) 7 38 5 (.int (-1)) = some (zm_84 E) := pF_x (fs := [.ref 39, .null, .int 0, .int (-1), .int 0, .int 0]) (zh_83_38 E) rfl rfl
theorem tz_Rules_init_38 (E : Nat → MCQ) (d : Nat) : EC (d + 2) mRules_init [.ref 38] (zm_80 E) = some (none, zm_84 E) := by
  rw [q_Rules_init]
  simp -dsimp only [hO_s, hV_s, cond_true, za_81, za_82, za_83, za_84]
def zm_85 (E : Nat → MCQ) : Mem := setC (zm_84 E) 0 (.inr (8, [.ref 1, .ref 14, .ref 27, .null, .ref 28, .ref 30, .ref 32, .int 0, .ref 33, .ref 38, .null, .null, .null, .int 0, .int 0, .int 0, .int 0, .int 0, .int 0, .null]))
theorem zh_84_0 (E : Nat → MCQ) : (zm_84 E).2.2 0 = .inr (8, [.ref 1, .ref 14, .ref 27, .null, .ref 28, .ref 30, .ref 32, .int 0, .ref 33, .null, .null, .null, .null, .int 0, .int 0, .int 0, .int 0, .int 0, .int 0, .null]) := rfl
theorem za_85 (E : Nat → MCQ) : pF (zm_84 E) 8 0 9 (.ref 38) = some (zm_85 E) := pF_x (fs := [.ref 1, .ref 14, .ref 27, .null, .ref 28, .ref 30, .ref 32, .int 0, .ref 33, .null, .null, .null, .null, .int 0, .int 0, .int 0, .int 0, .int 0, .int 0, .null]) (zh_84_0 E) rfl rfl
def zm_86 (E : Nat → MCQ) : Mem := addC (zm_85 E) 5 (.inr (4, dfl 4))
theorem za_86 (E : Nat → MCQ) : addC (zm_85 E) 5 (.inr (4, dfl 4)) = zm_86 E := rfl
theorem zl_85 (E : Nat → MCQ) : (zm_85 E).1 = 40 := rfl
theorem zn_86 (E : Nat → MCQ) : (zm_85 E).1 = 40 := zl_85 E
theorem zi_86 (E : Nat → MCQ) : isC (zm_86 E) 4 40 = true := rfl
def zm_87 (E : Nat → MCQ) : Mem := addC (zm_86 E) 10 (ARt 0 10)
theorem zl_86 (E : Nat → MCQ) : (zm_86 E).1 = 41 := rfl
theorem za_87 (E : Nat → MCQ) : newA (zm_86 E) 0 10 = some (41, zm_87 E) := nA_x (n := 10) (by decide) (zl_86 E)
def zm_88 (E : Nat → MCQ) : Mem := setC (zm_87 E) 40 (.inr (4, [.ref 41, .null, .null, .null, .int 0]))
theorem zh_87_40 (E : Nat → MCQ) : (zm_87 E).2.2 40 = .inr (4, dfl 4) := rfl
theorem za_88 (E : Nat → MCQ) : pF (zm_87 E) 4 40 0 (.ref 41) = some (zm_88 E) := pF_x (fs := dfl 4) (zh_87_40 E) rfl rfl
def zm_89 (E : Nat → MCQ) : Mem := addC (zm_88 E) 10 (ARt 0 10)
theorem zl_88 (E : Nat → MCQ) : (zm_88 E).1 = 42 := rfl
theorem za_89 (E : Nat → MCQ) : newA (zm_88 E) 0 10 = some (42, zm_89 E) := nA_x (n := 10) (by decide) (zl_88 E)
def zm_90 (E : Nat → MCQ) : Mem := setC (zm_89 E) 40 (.inr (4, [.ref 41, .ref 42, .null, .null, .int 0]))
theorem zh_89_40 (E : Nat → MCQ) : (zm_89 E).2.2 40 = .inr (4, [.ref 41, .null, .null, .null, .int 0]) := rfl
theorem za_90 (E : Nat → MCQ) : pF (zm_89 E) 4 40 1 (.ref 42) = some (zm_90 E) := pF_x (fs := [.ref 41, .null, .null, .null, .int 0]) (zh_89_40 E) rfl rfl
def zm_91 (E : Nat → MCQ) : Mem := addC (zm_90 E) 10 (ARt 0 10)
theorem zl_90 (E : Nat → MCQ) : (zm_90 E).1 = 43 := rfl
theorem za_91 (E : Nat → MCQ) : newA (zm_90 E) 0 10 = some (43, zm_91 E) := nA_x (n := 10) (by decide) (zl_90 E)
def zm_92 (E : Nat → MCQ) : Mem := setC (zm_91 E) 40 (.inr (4, [.ref 41, .ref 42, .ref 43, .null, .int 0]))
theorem zh_91_40 (E : Nat → MCQ) : (zm_91 E).2.2 40 = .inr (4, [.ref 41, .ref 42, .null, .null, .int 0]) := rfl
theorem za_92 (E : Nat → MCQ) : pF (zm_91 E) 4 40 2 (.ref 43) = some (zm_92 E) := pF_x (fs := [.ref 41, .ref 42, .null, .null, .int 0]) (zh_91_40 E) rfl rfl
def zm_93 (E : Nat → MCQ) : Mem := addC (zm_92 E) 45 (ARt 0 45)
theorem zl_92 (E : Nat → MCQ) : (zm_92 E).1 = 44 := rfl
theorem za_93 (E : Nat → MCQ) : newA (zm_92 E) 0 45 = some (44, zm_93 E) := nA_x (n := 45) (by decide) (zl_92 E)
def zm_94 (E : Nat → MCQ) : Mem := setC (zm_93 E) 40 (.inr (4, [.ref 41, .ref 42, .ref 43, .ref 44, .int 0]))
theorem zh_93_40 (E : Nat → MCQ) : (zm_93 E).2.2 40 = .inr (4, [.ref 41, .ref 42, .ref 43, .null, .int 0]) := rfl
theorem za_94 (E : Nat → MCQ) : pF (zm_93 E) 4 40 3 (.ref 44) = some (zm_94 E) := pF_x (fs := [.ref 41, .ref 42, .ref 43, .null, .int 0]) (zh_93_40 E) rfl rfl
theorem tz_Halves_init_40 (E : Nat → MCQ) (d : Nat) : EC (d + 2) mHalves_init [.ref 40] (zm_86 E) = some (none, zm_94 E) := by
  rw [q_Halves_init]
  simp -dsimp only [hO_s, hV_s, cond_true, za_87, za_88, za_89, za_90, za_91, za_92, za_93, za_94]
def zm_95 (E : Nat → MCQ) : Mem := setC (zm_94 E) 0 (.inr (8, [.ref 1, .ref 14, .ref 27, .null, .ref 28, .ref 30, .ref 32, .int 0, .ref 33, .ref 38, .ref 40, .null, .null, .int 0, .int 0, .int 0, .int 0, .int 0, .int 0, .null]))
theorem zh_94_0 (E : Nat → MCQ) : (zm_94 E).2.2 0 = .inr (8, [.ref 1, .ref 14, .ref 27, .null, .ref 28, .ref 30, .ref 32, .int 0, .ref 33, .ref 38, .null, .null, .null, .int 0, .int 0, .int 0, .int 0, .int 0, .int 0, .null]) := rfl
theorem za_95 (E : Nat → MCQ) : pF (zm_94 E) 8 0 10 (.ref 40) = some (zm_95 E) := pF_x (fs := [.ref 1, .ref 14, .ref 27, .null, .ref 28, .ref 30, .ref 32, .int 0, .ref 33, .ref 38, .null, .null, .null, .int 0, .int 0, .int 0, .int 0, .int 0, .int 0, .null]) (zh_94_0 E) rfl rfl
def zm_96 (E : Nat → MCQ) : Mem := addC (zm_95 E) 6 (.inr (2, dfl 2))
theorem za_96 (E : Nat → MCQ) : addC (zm_95 E) 6 (.inr (2, dfl 2)) = zm_96 E := rfl
theorem zl_95 (E : Nat → MCQ) : (zm_95 E).1 = 45 := rfl
theorem zn_96 (E : Nat → MCQ) : (zm_95 E).1 = 45 := zl_95 E
theorem zi_96 (E : Nat → MCQ) : isC (zm_96 E) 2 45 = true := rfl
def zm_97 (E : Nat → MCQ) : Mem := addC (zm_96 E) 6 (ARt 0 6)
theorem zl_96 (E : Nat → MCQ) : (zm_96 E).1 = 46 := rfl
theorem za_97 (E : Nat → MCQ) : newA (zm_96 E) 0 6 = some (46, zm_97 E) := nA_x (n := 6) (by decide) (zl_96 E)
def zm_98 (E : Nat → MCQ) : Mem := setC (zm_97 E) 45 (.inr (2, [.ref 46, .null, .null, .null, .null, .int 0]))
theorem zh_97_45 (E : Nat → MCQ) : (zm_97 E).2.2 45 = .inr (2, dfl 2) := rfl
theorem za_98 (E : Nat → MCQ) : pF (zm_97 E) 2 45 0 (.ref 46) = some (zm_98 E) := pF_x (fs := dfl 2) (zh_97_45 E) rfl rfl
def zm_99 (E : Nat → MCQ) : Mem := addC (zm_98 E) 6 (ARt 0 6)
theorem zl_98 (E : Nat → MCQ) : (zm_98 E).1 = 47 := rfl
theorem za_99 (E : Nat → MCQ) : newA (zm_98 E) 0 6 = some (47, zm_99 E) := nA_x (n := 6) (by decide) (zl_98 E)
def zm_100 (E : Nat → MCQ) : Mem := setC (zm_99 E) 45 (.inr (2, [.ref 46, .ref 47, .null, .null, .null, .int 0]))
theorem zh_99_45 (E : Nat → MCQ) : (zm_99 E).2.2 45 = .inr (2, [.ref 46, .null, .null, .null, .null, .int 0]) := rfl
theorem za_100 (E : Nat → MCQ) : pF (zm_99 E) 2 45 1 (.ref 47) = some (zm_100 E) := pF_x (fs := [.ref 46, .null, .null, .null, .null, .int 0]) (zh_99_45 E) rfl rfl
def zm_101 (E : Nat → MCQ) : Mem := addC (zm_100 E) 6 (ARt 0 6)
theorem zl_100 (E : Nat → MCQ) : (zm_100 E).1 = 48 := rfl
theorem za_101 (E : Nat → MCQ) : newA (zm_100 E) 0 6 = some (48, zm_101 E) := nA_x (n := 6) (by decide) (zl_100 E)
def zm_102 (E : Nat → MCQ) : Mem := setC (zm_101 E) 45 (.inr (2, [.ref 46, .ref 47, .ref 48, .null, .null, .int 0]))
theorem zh_101_45 (E : Nat → MCQ) : (zm_101 E).2.2 45 = .inr (2, [.ref 46, .ref 47, .null, .null, .null, .int 0]) := rfl
theorem za_102 (E : Nat → MCQ) : pF (zm_101 E) 2 45 2 (.ref 48) = some (zm_102 E) := pF_x (fs := [.ref 46, .ref 47, .null, .null, .null, .int 0]) (zh_101_45 E) rfl rfl
def zm_103 (E : Nat → MCQ) : Mem := addC (zm_102 E) 6 (ARt 0 6)
set_option maxRecDepth 20000 in
theorem zl_102 (E : Nat → MCQ) : (zm_102 E).1 = 49 := rfl
theorem za_103 (E : Nat → MCQ) : newA (zm_102 E) 0 6 = some (49, zm_103 E) := nA_x (n := 6) (by decide) (zl_102 E)
def zm_104 (E : Nat → MCQ) : Mem := setC (zm_103 E) 45 (.inr (2, [.ref 46, .ref 47, .ref 48, .ref 49, .null, .int 0]))
theorem zh_103_45 (E : Nat → MCQ) : (zm_103 E).2.2 45 = .inr (2, [.ref 46, .ref 47, .ref 48, .null, .null, .int 0]) := rfl
theorem za_104 (E : Nat → MCQ) : pF (zm_103 E) 2 45 3 (.ref 49) = some (zm_104 E) := pF_x (fs := [.ref 46, .ref 47, .ref 48, .null, .null, .int 0]) (zh_103_45 E) rfl rfl
def zm_105 (E : Nat → MCQ) : Mem := addC (zm_104 E) 6 (ARt 0 6)
set_option maxRecDepth 20000 in
theorem zl_104 (E : Nat → MCQ) : (zm_104 E).1 = 50 := rfl
theorem za_105 (E : Nat → MCQ) : newA (zm_104 E) 0 6 = some (50, zm_105 E) := nA_x (n := 6) (by decide) (zl_104 E)
def zm_106 (E : Nat → MCQ) : Mem := setC (zm_105 E) 45 (.inr (2, [.ref 46, .ref 47, .ref 48, .ref 49, .ref 50, .int 0]))
theorem zh_105_45 (E : Nat → MCQ) : (zm_105 E).2.2 45 = .inr (2, [.ref 46, .ref 47, .ref 48, .ref 49, .null, .int 0]) := rfl
theorem za_106 (E : Nat → MCQ) : pF (zm_105 E) 2 45 4 (.ref 50) = some (zm_106 E) := pF_x (fs := [.ref 46, .ref 47, .ref 48, .ref 49, .null, .int 0]) (zh_105_45 E) rfl rfl
theorem tz_Debts_init_45 (E : Nat → MCQ) (d : Nat) : EC (d + 2) mDebts_init [.ref 45] (zm_96 E) = some (none, zm_106 E) := by
  rw [q_Debts_init]
  simp -dsimp only [hO_s, hV_s, cond_true, za_97, za_98, za_99, za_100, za_101, za_102, za_103, za_104, za_105, za_106]
def zm_107 (E : Nat → MCQ) : Mem := setC (zm_106 E) 0 (.inr (8, [.ref 1, .ref 14, .ref 27, .null, .ref 28, .ref 30, .ref 32, .int 0, .ref 33, .ref 38, .ref 40, .ref 45, .null, .int 0, .int 0, .int 0, .int 0, .int 0, .int 0, .null]))
theorem zh_106_0 (E : Nat → MCQ) : (zm_106 E).2.2 0 = .inr (8, [.ref 1, .ref 14, .ref 27, .null, .ref 28, .ref 30, .ref 32, .int 0, .ref 33, .ref 38, .ref 40, .null, .null, .int 0, .int 0, .int 0, .int 0, .int 0, .int 0, .null]) := rfl
theorem za_107 (E : Nat → MCQ) : pF (zm_106 E) 8 0 11 (.ref 45) = some (zm_107 E) := pF_x (fs := [.ref 1, .ref 14, .ref 27, .null, .ref 28, .ref 30, .ref 32, .int 0, .ref 33, .ref 38, .ref 40, .null, .null, .int 0, .int 0, .int 0, .int 0, .int 0, .int 0, .null]) (zh_106_0 E) rfl rfl
def zm_108 (E : Nat → MCQ) : Mem := addC (zm_107 E) 7 (.inr (0, dfl 0))
theorem za_108 (E : Nat → MCQ) : addC (zm_107 E) 7 (.inr (0, dfl 0)) = zm_108 E := rfl
set_option maxRecDepth 20000 in
theorem zl_107 (E : Nat → MCQ) : (zm_107 E).1 = 51 := rfl
theorem zn_108 (E : Nat → MCQ) : (zm_107 E).1 = 51 := zl_107 E
theorem zi_108 (E : Nat → MCQ) : isC (zm_108 E) 0 51 = true := rfl
def zm_109 (E : Nat → MCQ) : Mem := addC (zm_108 E) 7 (ARt 0 7)
set_option maxRecDepth 20000 in
theorem zl_108 (E : Nat → MCQ) : (zm_108 E).1 = 52 := rfl
theorem za_109 (E : Nat → MCQ) : newA (zm_108 E) 0 7 = some (52, zm_109 E) := nA_x (n := 7) (by decide) (zl_108 E)
def zm_110 (E : Nat → MCQ) : Mem := setC (zm_109 E) 51 (.inr (0, [.ref 52, .null, .null, .null, .null, .int 0, .int 0]))
theorem zh_109_51 (E : Nat → MCQ) : (zm_109 E).2.2 51 = .inr (0, dfl 0) := rfl
theorem za_110 (E : Nat → MCQ) : pF (zm_109 E) 0 51 0 (.ref 52) = some (zm_110 E) := pF_x (fs := dfl 0) (zh_109_51 E) rfl rfl
def zm_111 (E : Nat → MCQ) : Mem := addC (zm_110 E) 7 (ARt 0 7)
set_option maxRecDepth 20000 in
theorem zl_110 (E : Nat → MCQ) : (zm_110 E).1 = 53 := rfl
theorem za_111 (E : Nat → MCQ) : newA (zm_110 E) 0 7 = some (53, zm_111 E) := nA_x (n := 7) (by decide) (zl_110 E)
def zm_112 (E : Nat → MCQ) : Mem := setC (zm_111 E) 51 (.inr (0, [.ref 52, .ref 53, .null, .null, .null, .int 0, .int 0]))
theorem zh_111_51 (E : Nat → MCQ) : (zm_111 E).2.2 51 = .inr (0, [.ref 52, .null, .null, .null, .null, .int 0, .int 0]) := rfl
theorem za_112 (E : Nat → MCQ) : pF (zm_111 E) 0 51 1 (.ref 53) = some (zm_112 E) := pF_x (fs := [.ref 52, .null, .null, .null, .null, .int 0, .int 0]) (zh_111_51 E) rfl rfl
def zm_113 (E : Nat → MCQ) : Mem := addC (zm_112 E) 7 (ARt 0 7)
set_option maxRecDepth 20000 in
theorem zl_112 (E : Nat → MCQ) : (zm_112 E).1 = 54 := rfl
theorem za_113 (E : Nat → MCQ) : newA (zm_112 E) 0 7 = some (54, zm_113 E) := nA_x (n := 7) (by decide) (zl_112 E)
def zm_114 (E : Nat → MCQ) : Mem := setC (zm_113 E) 51 (.inr (0, [.ref 52, .ref 53, .ref 54, .null, .null, .int 0, .int 0]))
theorem zh_113_51 (E : Nat → MCQ) : (zm_113 E).2.2 51 = .inr (0, [.ref 52, .ref 53, .null, .null, .null, .int 0, .int 0]) := rfl
theorem za_114 (E : Nat → MCQ) : pF (zm_113 E) 0 51 2 (.ref 54) = some (zm_114 E) := pF_x (fs := [.ref 52, .ref 53, .null, .null, .null, .int 0, .int 0]) (zh_113_51 E) rfl rfl
def zm_115 (E : Nat → MCQ) : Mem := addC (zm_114 E) 10 (ARt 0 10)
set_option maxRecDepth 20000 in
theorem zl_114 (E : Nat → MCQ) : (zm_114 E).1 = 55 := rfl
theorem za_115 (E : Nat → MCQ) : newA (zm_114 E) 0 10 = some (55, zm_115 E) := nA_x (n := 10) (by decide) (zl_114 E)
def zm_116 (E : Nat → MCQ) : Mem := setC (zm_115 E) 51 (.inr (0, [.ref 52, .ref 53, .ref 54, .ref 55, .null, .int 0, .int 0]))
theorem zh_115_51 (E : Nat → MCQ) : (zm_115 E).2.2 51 = .inr (0, [.ref 52, .ref 53, .ref 54, .null, .null, .int 0, .int 0]) := rfl
theorem za_116 (E : Nat → MCQ) : pF (zm_115 E) 0 51 3 (.ref 55) = some (zm_116 E) := pF_x (fs := [.ref 52, .ref 53, .ref 54, .null, .null, .int 0, .int 0]) (zh_115_51 E) rfl rfl
def zm_117 (E : Nat → MCQ) : Mem := addC (zm_116 E) 10 (ARt 0 10)
set_option maxRecDepth 20000 in
theorem zl_116 (E : Nat → MCQ) : (zm_116 E).1 = 56 := rfl
theorem za_117 (E : Nat → MCQ) : newA (zm_116 E) 0 10 = some (56, zm_117 E) := nA_x (n := 10) (by decide) (zl_116 E)
def zm_118 (E : Nat → MCQ) : Mem := setC (zm_117 E) 51 (.inr (0, [.ref 52, .ref 53, .ref 54, .ref 55, .ref 56, .int 0, .int 0]))
theorem zh_117_51 (E : Nat → MCQ) : (zm_117 E).2.2 51 = .inr (0, [.ref 52, .ref 53, .ref 54, .ref 55, .null, .int 0, .int 0]) := rfl
theorem za_118 (E : Nat → MCQ) : pF (zm_117 E) 0 51 4 (.ref 56) = some (zm_118 E) := pF_x (fs := [.ref 52, .ref 53, .ref 54, .ref 55, .null, .int 0, .int 0]) (zh_117_51 E) rfl rfl
theorem tz_CallingIn_init_51 (E : Nat → MCQ) (d : Nat) : EC (d + 2) mCallingIn_init [.ref 51] (zm_108 E) = some (none, zm_118 E) := by
  rw [q_CallingIn_init]
  simp -dsimp only [hO_s, hV_s, cond_true, za_109, za_110, za_111, za_112, za_113, za_114, za_115, za_116, za_117, za_118]
def zm_119 (E : Nat → MCQ) : Mem := setC (zm_118 E) 0 (.inr (8, [.ref 1, .ref 14, .ref 27, .null, .ref 28, .ref 30, .ref 32, .int 0, .ref 33, .ref 38, .ref 40, .ref 45, .ref 51, .int 0, .int 0, .int 0, .int 0, .int 0, .int 0, .null]))
theorem zh_118_0 (E : Nat → MCQ) : (zm_118 E).2.2 0 = .inr (8, [.ref 1, .ref 14, .ref 27, .null, .ref 28, .ref 30, .ref 32, .int 0, .ref 33, .ref 38, .ref 40, .ref 45, .null, .int 0, .int 0, .int 0, .int 0, .int 0, .int 0, .null]) := rfl
theorem za_119 (E : Nat → MCQ) : pF (zm_118 E) 8 0 12 (.ref 51) = some (zm_119 E) := pF_x (fs := [.ref 1, .ref 14, .ref 27, .null, .ref 28, .ref 30, .ref 32, .int 0, .ref 33, .ref 38, .ref 40, .ref 45, .null, .int 0, .int 0, .int 0, .int 0, .int 0, .int 0, .null]) (zh_118_0 E) rfl rfl
def zm_120 (E : Nat → MCQ) : Mem := setC (zm_119 E) 0 (.inr (8, [.ref 1, .ref 14, .ref 27, .null, .ref 28, .ref 30, .ref 32, .int 0, .ref 33, .ref 38, .ref 40, .ref 45, .ref 51, .int 0, .int 0, .int (-1), .int 0, .int 0, .int 0, .null]))
theorem zh_119_0 (E : Nat → MCQ) : (zm_119 E).2.2 0 = .inr (8, [.ref 1, .ref 14, .ref 27, .null, .ref 28, .ref 30, .ref 32, .int 0, .ref 33, .ref 38, .ref 40, .ref 45, .ref 51, .int 0, .int 0, .int 0, .int 0, .int 0, .int 0, .null]) := rfl
theorem za_120 (E : Nat → MCQ) : pF (zm_119 E) 8 0 15 (.int (-1)) = some (zm_120 E) := pF_x (fs := [.ref 1, .ref 14, .ref 27, .null, .ref 28, .ref 30, .ref 32, .int 0, .ref 33, .ref 38, .ref 40, .ref 45, .ref 51, .int 0, .int 0, .int 0, .int 0, .int 0, .int 0, .null]) (zh_119_0 E) rfl rfl
def zm_121 (E : Nat → MCQ) : Mem := setC (zm_120 E) 0 (.inr (8, [.ref 1, .ref 14, .ref 27, .null, .ref 28, .ref 30, .ref 32, .int 0, .ref 33, .ref 38, .ref 40, .ref 45, .ref 51, .int 0, .int 0, .int (-1), .int (-1), .int 0, .int 0, .null]))
theorem zh_120_0 (E : Nat → MCQ) : (zm_120 E).2.2 0 = .inr (8, [.ref 1, .ref 14, .ref 27, .null, .ref 28, .ref 30, .ref 32, .int 0, .ref 33, .ref 38, .ref 40, .ref 45, .ref 51, .int 0, .int 0, .int (-1), .int 0, .int 0, .int 0, .null]) := rfl
theorem za_121 (E : Nat → MCQ) : pF (zm_120 E) 8 0 16 (.int (-1)) = some (zm_121 E) := pF_x (fs := [.ref 1, .ref 14, .ref 27, .null, .ref 28, .ref 30, .ref 32, .int 0, .ref 33, .ref 38, .ref 40, .ref 45, .ref 51, .int 0, .int 0, .int (-1), .int 0, .int 0, .int 0, .null]) (zh_120_0 E) rfl rfl
def zm_122 (E : Nat → MCQ) : Mem := addC (zm_121 E) 5 (ARt 0 5)
set_option maxRecDepth 20000 in
theorem zl_121 (E : Nat → MCQ) : (zm_121 E).1 = 57 := rfl
theorem za_122 (E : Nat → MCQ) : newA (zm_121 E) 0 5 = some (57, zm_122 E) := nA_x (n := 5) (by decide) (zl_121 E)
def zm_123 (E : Nat → MCQ) : Mem := setC (zm_122 E) 0 (.inr (8, [.ref 1, .ref 14, .ref 27, .null, .ref 28, .ref 30, .ref 32, .int 0, .ref 33, .ref 38, .ref 40, .ref 45, .ref 51, .int 0, .int 0, .int (-1), .int (-1), .int 0, .int 0, .ref 57]))
theorem zh_122_0 (E : Nat → MCQ) : (zm_122 E).2.2 0 = .inr (8, [.ref 1, .ref 14, .ref 27, .null, .ref 28, .ref 30, .ref 32, .int 0, .ref 33, .ref 38, .ref 40, .ref 45, .ref 51, .int 0, .int 0, .int (-1), .int (-1), .int 0, .int 0, .null]) := rfl
theorem za_123 (E : Nat → MCQ) : pF (zm_122 E) 8 0 19 (.ref 57) = some (zm_123 E) := pF_x (fs := [.ref 1, .ref 14, .ref 27, .null, .ref 28, .ref 30, .ref 32, .int 0, .ref 33, .ref 38, .ref 40, .ref 45, .ref 51, .int 0, .int 0, .int (-1), .int (-1), .int 0, .int 0, .null]) (zh_122_0 E) rfl rfl
theorem tz_X_init_0 (E : Nat → MCQ) (d : Nat) : EC (d + 4) mX_init [.ref 0] (zm_1 E) = some (none, zm_123 E) := by
  rw [q_X_init]
  simp -dsimp only [hO_s, hV_s, cond_true, za_2, zn_2, zi_2, tz_Chest_init_1, za_29, za_30, zn_30, zi_30, tz_Chest_init_14, za_57, za_58, za_59, za_60, zn_60, zi_60, tz_Deeds_init_28, za_63, za_64, zn_64, zi_64, tz_Deeds_init_30, za_67, za_68, za_69, za_70, zn_70, zi_70, tz_Reader_init_33, za_79, za_80, zn_80, zi_80, tz_Rules_init_38, za_85, za_86, zn_86, zi_86, tz_Halves_init_40, za_95, za_96, zn_96, zi_96, tz_Debts_init_45, za_107, za_108, zn_108, zi_108, tz_CallingIn_init_51, za_119, za_120, za_121, za_122, za_123]
def zm_124 (E : Nat → MCQ) : Mem := addC (zm_123 E) 56 (.inr (9, dfl 9))
theorem za_124 (E : Nat → MCQ) : addC (zm_123 E) 56 (.inr (9, dfl 9)) = zm_124 E := rfl
set_option maxRecDepth 20000 in
theorem zl_123 (E : Nat → MCQ) : (zm_123 E).1 = 58 := rfl
theorem zn_124 (E : Nat → MCQ) : (zm_123 E).1 = 58 := zl_123 E
theorem zi_124 (E : Nat → MCQ) : isC (zm_124 E) 9 58 = true := rfl
def zm_125 (E : Nat → MCQ) : Mem := addC (zm_124 E) 7 (ARt 0 7)
set_option maxRecDepth 20000 in
theorem zl_124 (E : Nat → MCQ) : (zm_124 E).1 = 59 := rfl
theorem za_125 (E : Nat → MCQ) : newA (zm_124 E) 0 7 = some (59, zm_125 E) := nA_x (n := 7) (by decide) (zl_124 E)
def zm_126 (E : Nat → MCQ) : Mem := setC (zm_125 E) 58 (.inr (9, [.int 0, .ref 59, .null, .null, .null, .null, .int 0, .null, .int 0, .int 0, .int 0, .null, .null, .int 0, .int 0, .null, .null, .null, .int 0, .int 0, .int 0, .int 0, .int 0, .int 0, .int 0, .int 0, .null, .int 0, .int 0, .null, .null, .int 0, .null, .null, .null, .null, .null, .null, .int 0, .null, .null, .null, .int 0, .int 0, .int 0, .int 0, .int 0, .int 0, .int 0, .null, .null, .null, .null, .int 0, .int 0, .int 0]))
theorem zh_125_58 (E : Nat → MCQ) : (zm_125 E).2.2 58 = .inr (9, dfl 9) := rfl
theorem za_126 (E : Nat → MCQ) : pF (zm_125 E) 9 58 1 (.ref 59) = some (zm_126 E) := pF_x (fs := dfl 9) (zh_125_58 E) rfl rfl
def zm_127 (E : Nat → MCQ) : Mem := addC (zm_126 E) 5711 (ARt 0 5711)
set_option maxRecDepth 20000 in
theorem zl_126 (E : Nat → MCQ) : (zm_126 E).1 = 60 := rfl
theorem za_127 (E : Nat → MCQ) : newA (zm_126 E) 0 5711 = some (60, zm_127 E) := nA_x (n := 5711) (by decide) (zl_126 E)
def zm_128 (E : Nat → MCQ) : Mem := setC (zm_127 E) 58 (.inr (9, [.int 0, .ref 59, .ref 60, .null, .null, .null, .int 0, .null, .int 0, .int 0, .int 0, .null, .null, .int 0, .int 0, .null, .null, .null, .int 0, .int 0, .int 0, .int 0, .int 0, .int 0, .int 0, .int 0, .null, .int 0, .int 0, .null, .null, .int 0, .null, .null, .null, .null, .null, .null, .int 0, .null, .null, .null, .int 0, .int 0, .int 0, .int 0, .int 0, .int 0, .int 0, .null, .null, .null, .null, .int 0, .int 0, .int 0]))
theorem zh_127_58 (E : Nat → MCQ) : (zm_127 E).2.2 58 = .inr (9, [.int 0, .ref 59, .null, .null, .null, .null, .int 0, .null, .int 0, .int 0, .int 0, .null, .null, .int 0, .int 0, .null, .null, .null, .int 0, .int 0, .int 0, .int 0, .int 0, .int 0, .int 0, .int 0, .null, .int 0, .int 0, .null, .null, .int 0, .null, .null, .null, .null, .null, .null, .int 0, .null, .null, .null, .int 0, .int 0, .int 0, .int 0, .int 0, .int 0, .int 0, .null, .null, .null, .null, .int 0, .int 0, .int 0]) := rfl
theorem za_128 (E : Nat → MCQ) : pF (zm_127 E) 9 58 2 (.ref 60) = some (zm_128 E) := pF_x (fs := [.int 0, .ref 59, .null, .null, .null, .null, .int 0, .null, .int 0, .int 0, .int 0, .null, .null, .int 0, .int 0, .null, .null, .null, .int 0, .int 0, .int 0, .int 0, .int 0, .int 0, .int 0, .int 0, .null, .int 0, .int 0, .null, .null, .int 0, .null, .null, .null, .null, .null, .null, .int 0, .null, .null, .null, .int 0, .int 0, .int 0, .int 0, .int 0, .int 0, .int 0, .null, .null, .null, .null, .int 0, .int 0, .int 0]) (zh_127_58 E) rfl rfl
def zm_129 (E : Nat → MCQ) : Mem := addC (zm_128 E) 11422 (ARt 0 11422)
set_option maxRecDepth 20000 in
theorem zl_128 (E : Nat → MCQ) : (zm_128 E).1 = 61 := rfl
theorem za_129 (E : Nat → MCQ) : newA (zm_128 E) 0 11422 = some (61, zm_129 E) := nA_x (n := 11422) (by decide) (zl_128 E)
def zm_130 (E : Nat → MCQ) : Mem := setC (zm_129 E) 58 (.inr (9, [.int 0, .ref 59, .ref 60, .ref 61, .null, .null, .int 0, .null, .int 0, .int 0, .int 0, .null, .null, .int 0, .int 0, .null, .null, .null, .int 0, .int 0, .int 0, .int 0, .int 0, .int 0, .int 0, .int 0, .null, .int 0, .int 0, .null, .null, .int 0, .null, .null, .null, .null, .null, .null, .int 0, .null, .null, .null, .int 0, .int 0, .int 0, .int 0, .int 0, .int 0, .int 0, .null, .null, .null, .null, .int 0, .int 0, .int 0]))
theorem zh_129_58 (E : Nat → MCQ) : (zm_129 E).2.2 58 = .inr (9, [.int 0, .ref 59, .ref 60, .null, .null, .null, .int 0, .null, .int 0, .int 0, .int 0, .null, .null, .int 0, .int 0, .null, .null, .null, .int 0, .int 0, .int 0, .int 0, .int 0, .int 0, .int 0, .int 0, .null, .int 0, .int 0, .null, .null, .int 0, .null, .null, .null, .null, .null, .null, .int 0, .null, .null, .null, .int 0, .int 0, .int 0, .int 0, .int 0, .int 0, .int 0, .null, .null, .null, .null, .int 0, .int 0, .int 0]) := rfl
theorem za_130 (E : Nat → MCQ) : pF (zm_129 E) 9 58 3 (.ref 61) = some (zm_130 E) := pF_x (fs := [.int 0, .ref 59, .ref 60, .null, .null, .null, .int 0, .null, .int 0, .int 0, .int 0, .null, .null, .int 0, .int 0, .null, .null, .null, .int 0, .int 0, .int 0, .int 0, .int 0, .int 0, .int 0, .int 0, .null, .int 0, .int 0, .null, .null, .int 0, .null, .null, .null, .null, .null, .null, .int 0, .null, .null, .null, .int 0, .int 0, .int 0, .int 0, .int 0, .int 0, .int 0, .null, .null, .null, .null, .int 0, .int 0, .int 0]) (zh_129_58 E) rfl rfl
def zm_131 (E : Nat → MCQ) : Mem := addC (zm_130 E) 2 (ARt 2 2)
set_option maxRecDepth 20000 in
theorem zl_130 (E : Nat → MCQ) : (zm_130 E).1 = 62 := rfl
theorem za_131 (E : Nat → MCQ) : newA (zm_130 E) 2 2 = some (62, zm_131 E) := nA_x (n := 2) (by decide) (zl_130 E)
def zm_132 (E : Nat → MCQ) : Mem := setC (zm_131 E) 58 (.inr (9, [.int 0, .ref 59, .ref 60, .ref 61, .ref 62, .null, .int 0, .null, .int 0, .int 0, .int 0, .null, .null, .int 0, .int 0, .null, .null, .null, .int 0, .int 0, .int 0, .int 0, .int 0, .int 0, .int 0, .int 0, .null, .int 0, .int 0, .null, .null, .int 0, .null, .null, .null, .null, .null, .null, .int 0, .null, .null, .null, .int 0, .int 0, .int 0, .int 0, .int 0, .int 0, .int 0, .null, .null, .null, .null, .int 0, .int 0, .int 0]))
theorem zh_131_58 (E : Nat → MCQ) : (zm_131 E).2.2 58 = .inr (9, [.int 0, .ref 59, .ref 60, .ref 61, .null, .null, .int 0, .null, .int 0, .int 0, .int 0, .null, .null, .int 0, .int 0, .null, .null, .null, .int 0, .int 0, .int 0, .int 0, .int 0, .int 0, .int 0, .int 0, .null, .int 0, .int 0, .null, .null, .int 0, .null, .null, .null, .null, .null, .null, .int 0, .null, .null, .null, .int 0, .int 0, .int 0, .int 0, .int 0, .int 0, .int 0, .null, .null, .null, .null, .int 0, .int 0, .int 0]) := rfl
theorem za_132 (E : Nat → MCQ) : pF (zm_131 E) 9 58 4 (.ref 62) = some (zm_132 E) := pF_x (fs := [.int 0, .ref 59, .ref 60, .ref 61, .null, .null, .int 0, .null, .int 0, .int 0, .int 0, .null, .null, .int 0, .int 0, .null, .null, .null, .int 0, .int 0, .int 0, .int 0, .int 0, .int 0, .int 0, .int 0, .null, .int 0, .int 0, .null, .null, .int 0, .null, .null, .null, .null, .null, .null, .int 0, .null, .null, .null, .int 0, .int 0, .int 0, .int 0, .int 0, .int 0, .int 0, .null, .null, .null, .null, .int 0, .int 0, .int 0]) (zh_131_58 E) rfl rfl
def zm_133 (E : Nat → MCQ) : Mem := addC (zm_132 E) 333 (ARt 0 333)
set_option maxRecDepth 20000 in
theorem zl_132 (E : Nat → MCQ) : (zm_132 E).1 = 63 := rfl
theorem za_133 (E : Nat → MCQ) : newA (zm_132 E) 0 333 = some (63, zm_133 E) := nA_x (n := 333) (by decide) (zl_132 E)
def zm_134 (E : Nat → MCQ) : Mem := setC (zm_133 E) 58 (.inr (9, [.int 0, .ref 59, .ref 60, .ref 61, .ref 62, .ref 63, .int 0, .null, .int 0, .int 0, .int 0, .null, .null, .int 0, .int 0, .null, .null, .null, .int 0, .int 0, .int 0, .int 0, .int 0, .int 0, .int 0, .int 0, .null, .int 0, .int 0, .null, .null, .int 0, .null, .null, .null, .null, .null, .null, .int 0, .null, .null, .null, .int 0, .int 0, .int 0, .int 0, .int 0, .int 0, .int 0, .null, .null, .null, .null, .int 0, .int 0, .int 0]))
theorem zh_133_58 (E : Nat → MCQ) : (zm_133 E).2.2 58 = .inr (9, [.int 0, .ref 59, .ref 60, .ref 61, .ref 62, .null, .int 0, .null, .int 0, .int 0, .int 0, .null, .null, .int 0, .int 0, .null, .null, .null, .int 0, .int 0, .int 0, .int 0, .int 0, .int 0, .int 0, .int 0, .null, .int 0, .int 0, .null, .null, .int 0, .null, .null, .null, .null, .null, .null, .int 0, .null, .null, .null, .int 0, .int 0, .int 0, .int 0, .int 0, .int 0, .int 0, .null, .null, .null, .null, .int 0, .int 0, .int 0]) := rfl
theorem za_134 (E : Nat → MCQ) : pF (zm_133 E) 9 58 5 (.ref 63) = some (zm_134 E) := pF_x (fs := [.int 0, .ref 59, .ref 60, .ref 61, .ref 62, .null, .int 0, .null, .int 0, .int 0, .int 0, .null, .null, .int 0, .int 0, .null, .null, .null, .int 0, .int 0, .int 0, .int 0, .int 0, .int 0, .int 0, .int 0, .null, .int 0, .int 0, .null, .null, .int 0, .null, .null, .null, .null, .null, .null, .int 0, .null, .null, .null, .int 0, .int 0, .int 0, .int 0, .int 0, .int 0, .int 0, .null, .null, .null, .null, .int 0, .int 0, .int 0]) (zh_133_58 E) rfl rfl
def zm_135 (E : Nat → MCQ) : Mem := addC (zm_134 E) 122 (ARt 1 122)
set_option maxRecDepth 20000 in
theorem zl_134 (E : Nat → MCQ) : (zm_134 E).1 = 64 := rfl
theorem za_135 (E : Nat → MCQ) : newA (zm_134 E) 1 122 = some (64, zm_135 E) := nA_x (n := 122) (by decide) (zl_134 E)
def zw_3 : Nat → Int32 := upd (fun _ => 0) 0 (vp_nar .byte 112)
def zm_136 (E : Nat → MCQ) : Mem := setC (zm_135 E) 64 (.inl (1, 122, .inl zw_3))
theorem zh_135_64 (E : Nat → MCQ) : (zm_135 E).2.2 64 = ARt 1 122 := rfl
theorem za_136 (E : Nat → MCQ) : sB (zm_135 E) 64 0 112 = some (zm_136 E) := sB_x (i := 0) (n := 122) (f := (fun _ => 0)) (zh_135_64 E) (by decide) (by decide)
def zw_4 : Nat → Int32 := upd zw_3 1 (vp_nar .byte 97)
def zm_137 (E : Nat → MCQ) : Mem := setC (zm_136 E) 64 (.inl (1, 122, .inl zw_4))
theorem zh_136_64 (E : Nat → MCQ) : (zm_136 E).2.2 64 = .inl (1, 122, .inl zw_3) := rfl
theorem za_137 (E : Nat → MCQ) : sB (zm_136 E) 64 1 97 = some (zm_137 E) := sB_x (i := 1) (n := 122) (f := zw_3) (zh_136_64 E) (by decide) (by decide)
def zw_5 : Nat → Int32 := upd zw_4 2 (vp_nar .byte 121)
def zm_138 (E : Nat → MCQ) : Mem := setC (zm_137 E) 64 (.inl (1, 122, .inl zw_5))
theorem zh_137_64 (E : Nat → MCQ) : (zm_137 E).2.2 64 = .inl (1, 122, .inl zw_4) := rfl
theorem za_138 (E : Nat → MCQ) : sB (zm_137 E) 64 2 121 = some (zm_138 E) := sB_x (i := 2) (n := 122) (f := zw_4) (zh_137_64 E) (by decide) (by decide)
def zw_6 : Nat → Int32 := upd zw_5 3 (vp_nar .byte 115)
def zm_139 (E : Nat → MCQ) : Mem := setC (zm_138 E) 64 (.inl (1, 122, .inl zw_6))
theorem zh_138_64 (E : Nat → MCQ) : (zm_138 E).2.2 64 = .inl (1, 122, .inl zw_5) := rfl
theorem za_139 (E : Nat → MCQ) : sB (zm_138 E) 64 3 115 = some (zm_139 E) := sB_x (i := 3) (n := 122) (f := zw_5) (zh_138_64 E) (by decide) (by decide)
def zw_7 : Nat → Int32 := upd zw_6 4 (vp_nar .byte 32)
def zm_140 (E : Nat → MCQ) : Mem := setC (zm_139 E) 64 (.inl (1, 122, .inl zw_7))
theorem zh_139_64 (E : Nat → MCQ) : (zm_139 E).2.2 64 = .inl (1, 122, .inl zw_6) := rfl
theorem za_140 (E : Nat → MCQ) : sB (zm_139 E) 64 4 32 = some (zm_140 E) := sB_x (i := 4) (n := 122) (f := zw_6) (zh_139_64 E) (by decide) (by decide)
def zw_8 : Nat → Int32 := upd zw_7 5 (vp_nar .byte 119)
def zm_141 (E : Nat → MCQ) : Mem := setC (zm_140 E) 64 (.inl (1, 122, .inl zw_8))
theorem zh_140_64 (E : Nat → MCQ) : (zm_140 E).2.2 64 = .inl (1, 122, .inl zw_7) := rfl
theorem za_141 (E : Nat → MCQ) : sB (zm_140 E) 64 5 119 = some (zm_141 E) := sB_x (i := 5) (n := 122) (f := zw_7) (zh_140_64 E) (by decide) (by decide)
def zw_9 : Nat → Int32 := upd zw_8 6 (vp_nar .byte 101)
def zm_142 (E : Nat → MCQ) : Mem := setC (zm_141 E) 64 (.inl (1, 122, .inl zw_9))
theorem zh_141_64 (E : Nat → MCQ) : (zm_141 E).2.2 64 = .inl (1, 122, .inl zw_8) := rfl
theorem za_142 (E : Nat → MCQ) : sB (zm_141 E) 64 6 101 = some (zm_142 E) := sB_x (i := 6) (n := 122) (f := zw_8) (zh_141_64 E) (by decide) (by decide)
def zw_10 : Nat → Int32 := upd zw_9 7 (vp_nar .byte 97)
def zm_143 (E : Nat → MCQ) : Mem := setC (zm_142 E) 64 (.inl (1, 122, .inl zw_10))
theorem zh_142_64 (E : Nat → MCQ) : (zm_142 E).2.2 64 = .inl (1, 122, .inl zw_9) := rfl
theorem za_143 (E : Nat → MCQ) : sB (zm_142 E) 64 7 97 = some (zm_143 E) := sB_x (i := 7) (n := 122) (f := zw_9) (zh_142_64 E) (by decide) (by decide)
def zw_11 : Nat → Int32 := upd zw_10 8 (vp_nar .byte 114)
def zm_144 (E : Nat → MCQ) : Mem := setC (zm_143 E) 64 (.inl (1, 122, .inl zw_11))
theorem zh_143_64 (E : Nat → MCQ) : (zm_143 E).2.2 64 = .inl (1, 122, .inl zw_10) := rfl
theorem za_144 (E : Nat → MCQ) : sB (zm_143 E) 64 8 114 = some (zm_144 E) := sB_x (i := 8) (n := 122) (f := zw_10) (zh_143_64 E) (by decide) (by decide)
def zw_12 : Nat → Int32 := upd zw_11 9 (vp_nar .byte 115)
def zm_145 (E : Nat → MCQ) : Mem := setC (zm_144 E) 64 (.inl (1, 122, .inl zw_12))
theorem zh_144_64 (E : Nat → MCQ) : (zm_144 E).2.2 64 = .inl (1, 122, .inl zw_11) := rfl
theorem za_145 (E : Nat → MCQ) : sB (zm_144 E) 64 9 115 = some (zm_145 E) := sB_x (i := 9) (n := 122) (f := zw_11) (zh_144_64 E) (by decide) (by decide)
def zw_13 : Nat → Int32 := upd zw_12 10 (vp_nar .byte 32)
def zm_146 (E : Nat → MCQ) : Mem := setC (zm_145 E) 64 (.inl (1, 122, .inl zw_13))
theorem zh_145_64 (E : Nat → MCQ) : (zm_145 E).2.2 64 = .inl (1, 122, .inl zw_12) := rfl
theorem za_146 (E : Nat → MCQ) : sB (zm_145 E) 64 10 32 = some (zm_146 E) := sB_x (i := 10) (n := 122) (f := zw_12) (zh_145_64 E) (by decide) (by decide)
def zw_14 : Nat → Int32 := upd zw_13 11 (vp_nar .byte 98)
def zm_147 (E : Nat → MCQ) : Mem := setC (zm_146 E) 64 (.inl (1, 122, .inl zw_14))
theorem zh_146_64 (E : Nat → MCQ) : (zm_146 E).2.2 64 = .inl (1, 122, .inl zw_13) := rfl
theorem za_147 (E : Nat → MCQ) : sB (zm_146 E) 64 11 98 = some (zm_147 E) := sB_x (i := 11) (n := 122) (f := zw_13) (zh_146_64 E) (by decide) (by decide)
def zw_15 : Nat → Int32 := upd zw_14 12 (vp_nar .byte 97)
def zm_148 (E : Nat → MCQ) : Mem := setC (zm_147 E) 64 (.inl (1, 122, .inl zw_15))
theorem zh_147_64 (E : Nat → MCQ) : (zm_147 E).2.2 64 = .inl (1, 122, .inl zw_14) := rfl
theorem za_148 (E : Nat → MCQ) : sB (zm_147 E) 64 12 97 = some (zm_148 E) := sB_x (i := 12) (n := 122) (f := zw_14) (zh_147_64 E) (by decide) (by decide)
def zw_16 : Nat → Int32 := upd zw_15 13 (vp_nar .byte 114)
def zm_149 (E : Nat → MCQ) : Mem := setC (zm_148 E) 64 (.inl (1, 122, .inl zw_16))
theorem zh_148_64 (E : Nat → MCQ) : (zm_148 E).2.2 64 = .inl (1, 122, .inl zw_15) := rfl
theorem za_149 (E : Nat → MCQ) : sB (zm_148 E) 64 13 114 = some (zm_149 E) := sB_x (i := 13) (n := 122) (f := zw_15) (zh_148_64 E) (by decide) (by decide)
def zw_17 : Nat → Int32 := upd zw_16 14 (vp_nar .byte 115)
def zm_150 (E : Nat → MCQ) : Mem := setC (zm_149 E) 64 (.inl (1, 122, .inl zw_17))
theorem zh_149_64 (E : Nat → MCQ) : (zm_149 E).2.2 64 = .inl (1, 122, .inl zw_16) := rfl
theorem za_150 (E : Nat → MCQ) : sB (zm_149 E) 64 14 115 = some (zm_150 E) := sB_x (i := 14) (n := 122) (f := zw_16) (zh_149_64 E) (by decide) (by decide)
def zw_18 : Nat → Int32 := upd zw_17 15 (vp_nar .byte 32)
def zm_151 (E : Nat → MCQ) : Mem := setC (zm_150 E) 64 (.inl (1, 122, .inl zw_18))
theorem zh_150_64 (E : Nat → MCQ) : (zm_150 E).2.2 64 = .inl (1, 122, .inl zw_17) := rfl
theorem za_151 (E : Nat → MCQ) : sB (zm_150 E) 64 15 32 = some (zm_151 E) := sB_x (i := 15) (n := 122) (f := zw_17) (zh_150_64 E) (by decide) (by decide)
def zw_19 : Nat → Int32 := upd zw_18 16 (vp_nar .byte 105)
def zm_152 (E : Nat → MCQ) : Mem := setC (zm_151 E) 64 (.inl (1, 122, .inl zw_19))
theorem zh_151_64 (E : Nat → MCQ) : (zm_151 E).2.2 64 = .inl (1, 122, .inl zw_18) := rfl
theorem za_152 (E : Nat → MCQ) : sB (zm_151 E) 64 16 105 = some (zm_152 E) := sB_x (i := 16) (n := 122) (f := zw_18) (zh_151_64 E) (by decide) (by decide)
def zw_20 : Nat → Int32 := upd zw_19 17 (vp_nar .byte 102)
def zm_153 (E : Nat → MCQ) : Mem := setC (zm_152 E) 64 (.inl (1, 122, .inl zw_20))
theorem zh_152_64 (E : Nat → MCQ) : (zm_152 E).2.2 64 = .inl (1, 122, .inl zw_19) := rfl
theorem za_153 (E : Nat → MCQ) : sB (zm_152 E) 64 17 102 = some (zm_153 E) := sB_x (i := 17) (n := 122) (f := zw_19) (zh_152_64 E) (by decide) (by decide)
def zw_21 : Nat → Int32 := upd zw_20 18 (vp_nar .byte 32)
def zm_154 (E : Nat → MCQ) : Mem := setC (zm_153 E) 64 (.inl (1, 122, .inl zw_21))
theorem zh_153_64 (E : Nat → MCQ) : (zm_153 E).2.2 64 = .inl (1, 122, .inl zw_20) := rfl
theorem za_154 (E : Nat → MCQ) : sB (zm_153 E) 64 18 32 = some (zm_154 E) := sB_x (i := 18) (n := 122) (f := zw_20) (zh_153_64 E) (by decide) (by decide)
def zw_22 : Nat → Int32 := upd zw_21 19 (vp_nar .byte 111)
def zm_155 (E : Nat → MCQ) : Mem := setC (zm_154 E) 64 (.inl (1, 122, .inl zw_22))
theorem zh_154_64 (E : Nat → MCQ) : (zm_154 E).2.2 64 = .inl (1, 122, .inl zw_21) := rfl
theorem za_155 (E : Nat → MCQ) : sB (zm_154 E) 64 19 111 = some (zm_155 E) := sB_x (i := 19) (n := 122) (f := zw_21) (zh_154_64 E) (by decide) (by decide)
def zw_23 : Nat → Int32 := upd zw_22 20 (vp_nar .byte 114)
def zm_156 (E : Nat → MCQ) : Mem := setC (zm_155 E) 64 (.inl (1, 122, .inl zw_23))
theorem zh_155_64 (E : Nat → MCQ) : (zm_155 E).2.2 64 = .inl (1, 122, .inl zw_22) := rfl
theorem za_156 (E : Nat → MCQ) : sB (zm_155 E) 64 20 114 = some (zm_156 E) := sB_x (i := 20) (n := 122) (f := zw_22) (zh_155_64 E) (by decide) (by decide)
def zw_24 : Nat → Int32 := upd zw_23 21 (vp_nar .byte 32)
def zm_157 (E : Nat → MCQ) : Mem := setC (zm_156 E) 64 (.inl (1, 122, .inl zw_24))
theorem zh_156_64 (E : Nat → MCQ) : (zm_156 E).2.2 64 = .inl (1, 122, .inl zw_23) := rfl
theorem za_157 (E : Nat → MCQ) : sB (zm_156 E) 64 21 32 = some (zm_157 E) := sB_x (i := 21) (n := 122) (f := zw_23) (zh_156_64 E) (by decide) (by decide)
def zw_25 : Nat → Int32 := upd zw_24 22 (vp_nar .byte 97)
def zm_158 (E : Nat → MCQ) : Mem := setC (zm_157 E) 64 (.inl (1, 122, .inl zw_25))
theorem zh_157_64 (E : Nat → MCQ) : (zm_157 E).2.2 64 = .inl (1, 122, .inl zw_24) := rfl
theorem za_158 (E : Nat → MCQ) : sB (zm_157 E) 64 22 97 = some (zm_158 E) := sB_x (i := 22) (n := 122) (f := zw_24) (zh_157_64 E) (by decide) (by decide)
def zw_26 : Nat → Int32 := upd zw_25 23 (vp_nar .byte 110)
def zm_159 (E : Nat → MCQ) : Mem := setC (zm_158 E) 64 (.inl (1, 122, .inl zw_26))
theorem zh_158_64 (E : Nat → MCQ) : (zm_158 E).2.2 64 = .inl (1, 122, .inl zw_25) := rfl
theorem za_159 (E : Nat → MCQ) : sB (zm_158 E) 64 23 110 = some (zm_159 E) := sB_x (i := 23) (n := 122) (f := zw_25) (zh_158_64 E) (by decide) (by decide)
def zw_27 : Nat → Int32 := upd zw_26 24 (vp_nar .byte 100)
def zm_160 (E : Nat → MCQ) : Mem := setC (zm_159 E) 64 (.inl (1, 122, .inl zw_27))
theorem zh_159_64 (E : Nat → MCQ) : (zm_159 E).2.2 64 = .inl (1, 122, .inl zw_26) := rfl
theorem za_160 (E : Nat → MCQ) : sB (zm_159 E) 64 24 100 = some (zm_160 E) := sB_x (i := 24) (n := 122) (f := zw_26) (zh_159_64 E) (by decide) (by decide)
def zw_28 : Nat → Int32 := upd zw_27 25 (vp_nar .byte 32)
def zm_161 (E : Nat → MCQ) : Mem := setC (zm_160 E) 64 (.inl (1, 122, .inl zw_28))
theorem zh_160_64 (E : Nat → MCQ) : (zm_160 E).2.2 64 = .inl (1, 122, .inl zw_27) := rfl
theorem za_161 (E : Nat → MCQ) : sB (zm_160 E) 64 25 32 = some (zm_161 E) := sB_x (i := 25) (n := 122) (f := zw_27) (zh_160_64 E) (by decide) (by decide)
def zw_29 : Nat → Int32 := upd zw_28 26 (vp_nar .byte 110)
def zm_162 (E : Nat → MCQ) : Mem := setC (zm_161 E) 64 (.inl (1, 122, .inl zw_29))
theorem zh_161_64 (E : Nat → MCQ) : (zm_161 E).2.2 64 = .inl (1, 122, .inl zw_28) := rfl
theorem za_162 (E : Nat → MCQ) : sB (zm_161 E) 64 26 110 = some (zm_162 E) := sB_x (i := 26) (n := 122) (f := zw_28) (zh_161_64 E) (by decide) (by decide)
def zw_30 : Nat → Int32 := upd zw_29 27 (vp_nar .byte 111)
def zm_163 (E : Nat → MCQ) : Mem := setC (zm_162 E) 64 (.inl (1, 122, .inl zw_30))
theorem zh_162_64 (E : Nat → MCQ) : (zm_162 E).2.2 64 = .inl (1, 122, .inl zw_29) := rfl
theorem za_163 (E : Nat → MCQ) : sB (zm_162 E) 64 27 111 = some (zm_163 E) := sB_x (i := 27) (n := 122) (f := zw_29) (zh_162_64 E) (by decide) (by decide)
def zw_31 : Nat → Int32 := upd zw_30 28 (vp_nar .byte 116)
def zm_164 (E : Nat → MCQ) : Mem := setC (zm_163 E) 64 (.inl (1, 122, .inl zw_31))
theorem zh_163_64 (E : Nat → MCQ) : (zm_163 E).2.2 64 = .inl (1, 122, .inl zw_30) := rfl
theorem za_164 (E : Nat → MCQ) : sB (zm_163 E) 64 28 116 = some (zm_164 E) := sB_x (i := 28) (n := 122) (f := zw_30) (zh_163_64 E) (by decide) (by decide)
def zw_32 : Nat → Int32 := upd zw_31 29 (vp_nar .byte 32)
def zm_165 (E : Nat → MCQ) : Mem := setC (zm_164 E) 64 (.inl (1, 122, .inl zw_32))
theorem zh_164_64 (E : Nat → MCQ) : (zm_164 E).2.2 64 = .inl (1, 122, .inl zw_31) := rfl
theorem za_165 (E : Nat → MCQ) : sB (zm_164 E) 64 29 32 = some (zm_165 E) := sB_x (i := 29) (n := 122) (f := zw_31) (zh_164_64 E) (by decide) (by decide)
def zw_33 : Nat → Int32 := upd zw_32 30 (vp_nar .byte 111)
def zm_166 (E : Nat → MCQ) : Mem := setC (zm_165 E) 64 (.inl (1, 122, .inl zw_33))
theorem zh_165_64 (E : Nat → MCQ) : (zm_165 E).2.2 64 = .inl (1, 122, .inl zw_32) := rfl
theorem za_166 (E : Nat → MCQ) : sB (zm_165 E) 64 30 111 = some (zm_166 E) := sB_x (i := 30) (n := 122) (f := zw_32) (zh_165_64 E) (by decide) (by decide)
def zw_34 : Nat → Int32 := upd zw_33 31 (vp_nar .byte 119)
def zm_167 (E : Nat → MCQ) : Mem := setC (zm_166 E) 64 (.inl (1, 122, .inl zw_34))
theorem zh_166_64 (E : Nat → MCQ) : (zm_166 E).2.2 64 = .inl (1, 122, .inl zw_33) := rfl
theorem za_167 (E : Nat → MCQ) : sB (zm_166 E) 64 31 119 = some (zm_167 E) := sB_x (i := 31) (n := 122) (f := zw_33) (zh_166_64 E) (by decide) (by decide)
def zw_35 : Nat → Int32 := upd zw_34 32 (vp_nar .byte 101)
def zm_168 (E : Nat → MCQ) : Mem := setC (zm_167 E) 64 (.inl (1, 122, .inl zw_35))
theorem zh_167_64 (E : Nat → MCQ) : (zm_167 E).2.2 64 = .inl (1, 122, .inl zw_34) := rfl
theorem za_168 (E : Nat → MCQ) : sB (zm_167 E) 64 32 101 = some (zm_168 E) := sB_x (i := 32) (n := 122) (f := zw_34) (zh_167_64 E) (by decide) (by decide)
def zw_36 : Nat → Int32 := upd zw_35 33 (vp_nar .byte 115)
def zm_169 (E : Nat → MCQ) : Mem := setC (zm_168 E) 64 (.inl (1, 122, .inl zw_36))
theorem zh_168_64 (E : Nat → MCQ) : (zm_168 E).2.2 64 = .inl (1, 122, .inl zw_35) := rfl
theorem za_169 (E : Nat → MCQ) : sB (zm_168 E) 64 33 115 = some (zm_169 E) := sB_x (i := 33) (n := 122) (f := zw_35) (zh_168_64 E) (by decide) (by decide)
def zw_37 : Nat → Int32 := upd zw_36 34 (vp_nar .byte 32)
def zm_170 (E : Nat → MCQ) : Mem := setC (zm_169 E) 64 (.inl (1, 122, .inl zw_37))
theorem zh_169_64 (E : Nat → MCQ) : (zm_169 E).2.2 64 = .inl (1, 122, .inl zw_36) := rfl
theorem za_170 (E : Nat → MCQ) : sB (zm_169 E) 64 34 32 = some (zm_170 E) := sB_x (i := 34) (n := 122) (f := zw_36) (zh_169_64 E) (by decide) (by decide)
def zw_38 : Nat → Int32 := upd zw_37 35 (vp_nar .byte 104)
def zm_171 (E : Nat → MCQ) : Mem := setC (zm_170 E) 64 (.inl (1, 122, .inl zw_38))
theorem zh_170_64 (E : Nat → MCQ) : (zm_170 E).2.2 64 = .inl (1, 122, .inl zw_37) := rfl
theorem za_171 (E : Nat → MCQ) : sB (zm_170 E) 64 35 104 = some (zm_171 E) := sB_x (i := 35) (n := 122) (f := zw_37) (zh_170_64 E) (by decide) (by decide)
def zw_39 : Nat → Int32 := upd zw_38 36 (vp_nar .byte 111)
def zm_172 (E : Nat → MCQ) : Mem := setC (zm_171 E) 64 (.inl (1, 122, .inl zw_39))
theorem zh_171_64 (E : Nat → MCQ) : (zm_171 E).2.2 64 = .inl (1, 122, .inl zw_38) := rfl
theorem za_172 (E : Nat → MCQ) : sB (zm_171 E) 64 36 111 = some (zm_172 E) := sB_x (i := 36) (n := 122) (f := zw_38) (zh_171_64 E) (by decide) (by decide)
def zw_40 : Nat → Int32 := upd zw_39 37 (vp_nar .byte 108)
def zm_173 (E : Nat → MCQ) : Mem := setC (zm_172 E) 64 (.inl (1, 122, .inl zw_40))
theorem zh_172_64 (E : Nat → MCQ) : (zm_172 E).2.2 64 = .inl (1, 122, .inl zw_39) := rfl
theorem za_173 (E : Nat → MCQ) : sB (zm_172 E) 64 37 108 = some (zm_173 E) := sB_x (i := 37) (n := 122) (f := zw_39) (zh_172_64 E) (by decide) (by decide)
def zw_41 : Nat → Int32 := upd zw_40 38 (vp_nar .byte 100)
def zm_174 (E : Nat → MCQ) : Mem := setC (zm_173 E) 64 (.inl (1, 122, .inl zw_41))
theorem zh_173_64 (E : Nat → MCQ) : (zm_173 E).2.2 64 = .inl (1, 122, .inl zw_40) := rfl
theorem za_174 (E : Nat → MCQ) : sB (zm_173 E) 64 38 100 = some (zm_174 E) := sB_x (i := 38) (n := 122) (f := zw_40) (zh_173_64 E) (by decide) (by decide)
def zw_42 : Nat → Int32 := upd zw_41 39 (vp_nar .byte 115)
def zm_175 (E : Nat → MCQ) : Mem := setC (zm_174 E) 64 (.inl (1, 122, .inl zw_42))
theorem zh_174_64 (E : Nat → MCQ) : (zm_174 E).2.2 64 = .inl (1, 122, .inl zw_41) := rfl
theorem za_175 (E : Nat → MCQ) : sB (zm_174 E) 64 39 115 = some (zm_175 E) := sB_x (i := 39) (n := 122) (f := zw_41) (zh_174_64 E) (by decide) (by decide)
def zw_43 : Nat → Int32 := upd zw_42 40 (vp_nar .byte 32)
def zm_176 (E : Nat → MCQ) : Mem := setC (zm_175 E) 64 (.inl (1, 122, .inl zw_43))
theorem zh_175_64 (E : Nat → MCQ) : (zm_175 E).2.2 64 = .inl (1, 122, .inl zw_42) := rfl
theorem za_176 (E : Nat → MCQ) : sB (zm_175 E) 64 40 32 = some (zm_176 E) := sB_x (i := 40) (n := 122) (f := zw_42) (zh_175_64 E) (by decide) (by decide)
def zw_44 : Nat → Int32 := upd zw_43 41 (vp_nar .byte 107)
def zm_177 (E : Nat → MCQ) : Mem := setC (zm_176 E) 64 (.inl (1, 122, .inl zw_44))
theorem zh_176_64 (E : Nat → MCQ) : (zm_176 E).2.2 64 = .inl (1, 122, .inl zw_43) := rfl
theorem za_177 (E : Nat → MCQ) : sB (zm_176 E) 64 41 107 = some (zm_177 E) := sB_x (i := 41) (n := 122) (f := zw_43) (zh_176_64 E) (by decide) (by decide)
def zw_45 : Nat → Int32 := upd zw_44 42 (vp_nar .byte 105)
def zm_178 (E : Nat → MCQ) : Mem := setC (zm_177 E) 64 (.inl (1, 122, .inl zw_45))
theorem zh_177_64 (E : Nat → MCQ) : (zm_177 E).2.2 64 = .inl (1, 122, .inl zw_44) := rfl
theorem za_178 (E : Nat → MCQ) : sB (zm_177 E) 64 42 105 = some (zm_178 E) := sB_x (i := 42) (n := 122) (f := zw_44) (zh_177_64 E) (by decide) (by decide)
def zw_46 : Nat → Int32 := upd zw_45 43 (vp_nar .byte 110)
def zm_179 (E : Nat → MCQ) : Mem := setC (zm_178 E) 64 (.inl (1, 122, .inl zw_46))
theorem zh_178_64 (E : Nat → MCQ) : (zm_178 E).2.2 64 = .inl (1, 122, .inl zw_45) := rfl
theorem za_179 (E : Nat → MCQ) : sB (zm_178 E) 64 43 110 = some (zm_179 E) := sB_x (i := 43) (n := 122) (f := zw_45) (zh_178_64 E) (by decide) (by decide)
def zw_47 : Nat → Int32 := upd zw_46 44 (vp_nar .byte 100)
def zm_180 (E : Nat → MCQ) : Mem := setC (zm_179 E) 64 (.inl (1, 122, .inl zw_47))
theorem zh_179_64 (E : Nat → MCQ) : (zm_179 E).2.2 64 = .inl (1, 122, .inl zw_46) := rfl
theorem za_180 (E : Nat → MCQ) : sB (zm_179 E) 64 44 100 = some (zm_180 E) := sB_x (i := 44) (n := 122) (f := zw_46) (zh_179_64 E) (by decide) (by decide)
def zw_48 : Nat → Int32 := upd zw_47 45 (vp_nar .byte 32)
def zm_181 (E : Nat → MCQ) : Mem := setC (zm_180 E) 64 (.inl (1, 122, .inl zw_48))
theorem zh_180_64 (E : Nat → MCQ) : (zm_180 E).2.2 64 = .inl (1, 122, .inl zw_47) := rfl
theorem za_181 (E : Nat → MCQ) : sB (zm_180 E) 64 45 32 = some (zm_181 E) := sB_x (i := 45) (n := 122) (f := zw_47) (zh_180_64 E) (by decide) (by decide)
def zw_49 : Nat → Int32 := upd zw_48 46 (vp_nar .byte 108)
def zm_182 (E : Nat → MCQ) : Mem := setC (zm_181 E) 64 (.inl (1, 122, .inl zw_49))
theorem zh_181_64 (E : Nat → MCQ) : (zm_181 E).2.2 64 = .inl (1, 122, .inl zw_48) := rfl
theorem za_182 (E : Nat → MCQ) : sB (zm_181 E) 64 46 108 = some (zm_182 E) := sB_x (i := 46) (n := 122) (f := zw_48) (zh_181_64 E) (by decide) (by decide)
def zw_50 : Nat → Int32 := upd zw_49 47 (vp_nar .byte 97)
def zm_183 (E : Nat → MCQ) : Mem := setC (zm_182 E) 64 (.inl (1, 122, .inl zw_50))
theorem zh_182_64 (E : Nat → MCQ) : (zm_182 E).2.2 64 = .inl (1, 122, .inl zw_49) := rfl
theorem za_183 (E : Nat → MCQ) : sB (zm_182 E) 64 47 97 = some (zm_183 E) := sB_x (i := 47) (n := 122) (f := zw_49) (zh_182_64 E) (by decide) (by decide)
def zw_51 : Nat → Int32 := upd zw_50 48 (vp_nar .byte 116)
def zm_184 (E : Nat → MCQ) : Mem := setC (zm_183 E) 64 (.inl (1, 122, .inl zw_51))
theorem zh_183_64 (E : Nat → MCQ) : (zm_183 E).2.2 64 = .inl (1, 122, .inl zw_50) := rfl
theorem za_184 (E : Nat → MCQ) : sB (zm_183 E) 64 48 116 = some (zm_184 E) := sB_x (i := 48) (n := 122) (f := zw_50) (zh_183_64 E) (by decide) (by decide)
def zw_52 : Nat → Int32 := upd zw_51 49 (vp_nar .byte 101)
def zm_185 (E : Nat → MCQ) : Mem := setC (zm_184 E) 64 (.inl (1, 122, .inl zw_52))
theorem zh_184_64 (E : Nat → MCQ) : (zm_184 E).2.2 64 = .inl (1, 122, .inl zw_51) := rfl
theorem za_185 (E : Nat → MCQ) : sB (zm_184 E) 64 49 101 = some (zm_185 E) := sB_x (i := 49) (n := 122) (f := zw_51) (zh_184_64 E) (by decide) (by decide)
def zw_53 : Nat → Int32 := upd zw_52 50 (vp_nar .byte 32)
def zm_186 (E : Nat → MCQ) : Mem := setC (zm_185 E) 64 (.inl (1, 122, .inl zw_53))
theorem zh_185_64 (E : Nat → MCQ) : (zm_185 E).2.2 64 = .inl (1, 122, .inl zw_52) := rfl
theorem za_186 (E : Nat → MCQ) : sB (zm_185 E) 64 50 32 = some (zm_186 E) := sB_x (i := 50) (n := 122) (f := zw_52) (zh_185_64 E) (by decide) (by decide)
def zw_54 : Nat → Int32 := upd zw_53 51 (vp_nar .byte 116)
def zm_187 (E : Nat → MCQ) : Mem := setC (zm_186 E) 64 (.inl (1, 122, .inl zw_54))
theorem zh_186_64 (E : Nat → MCQ) : (zm_186 E).2.2 64 = .inl (1, 122, .inl zw_53) := rfl
theorem za_187 (E : Nat → MCQ) : sB (zm_186 E) 64 51 116 = some (zm_187 E) := sB_x (i := 51) (n := 122) (f := zw_53) (zh_186_64 E) (by decide) (by decide)
def zw_55 : Nat → Int32 := upd zw_54 52 (vp_nar .byte 111)
def zm_188 (E : Nat → MCQ) : Mem := setC (zm_187 E) 64 (.inl (1, 122, .inl zw_55))
theorem zh_187_64 (E : Nat → MCQ) : (zm_187 E).2.2 64 = .inl (1, 122, .inl zw_54) := rfl
theorem za_188 (E : Nat → MCQ) : sB (zm_187 E) 64 52 111 = some (zm_188 E) := sB_x (i := 52) (n := 122) (f := zw_54) (zh_187_64 E) (by decide) (by decide)
def zw_56 : Nat → Int32 := upd zw_55 53 (vp_nar .byte 32)
def zm_189 (E : Nat → MCQ) : Mem := setC (zm_188 E) 64 (.inl (1, 122, .inl zw_56))
theorem zh_188_64 (E : Nat → MCQ) : (zm_188 E).2.2 64 = .inl (1, 122, .inl zw_55) := rfl
theorem za_189 (E : Nat → MCQ) : sB (zm_188 E) 64 53 32 = some (zm_189 E) := sB_x (i := 53) (n := 122) (f := zw_55) (zh_188_64 E) (by decide) (by decide)
def zw_57 : Nat → Int32 := upd zw_56 54 (vp_nar .byte 109)
def zm_190 (E : Nat → MCQ) : Mem := setC (zm_189 E) 64 (.inl (1, 122, .inl zw_57))
theorem zh_189_64 (E : Nat → MCQ) : (zm_189 E).2.2 64 = .inl (1, 122, .inl zw_56) := rfl
theorem za_190 (E : Nat → MCQ) : sB (zm_189 E) 64 54 109 = some (zm_190 E) := sB_x (i := 54) (n := 122) (f := zw_56) (zh_189_64 E) (by decide) (by decide)
def zw_58 : Nat → Int32 := upd zw_57 55 (vp_nar .byte 111)
def zm_191 (E : Nat → MCQ) : Mem := setC (zm_190 E) 64 (.inl (1, 122, .inl zw_58))
theorem zh_190_64 (E : Nat → MCQ) : (zm_190 E).2.2 64 = .inl (1, 122, .inl zw_57) := rfl
theorem za_191 (E : Nat → MCQ) : sB (zm_190 E) 64 55 111 = some (zm_191 E) := sB_x (i := 55) (n := 122) (f := zw_57) (zh_190_64 E) (by decide) (by decide)
def zw_59 : Nat → Int32 := upd zw_58 56 (vp_nar .byte 111)
def zm_192 (E : Nat → MCQ) : Mem := setC (zm_191 E) 64 (.inl (1, 122, .inl zw_59))
theorem zh_191_64 (E : Nat → MCQ) : (zm_191 E).2.2 64 = .inl (1, 122, .inl zw_58) := rfl
theorem za_192 (E : Nat → MCQ) : sB (zm_191 E) 64 56 111 = some (zm_192 E) := sB_x (i := 56) (n := 122) (f := zw_58) (zh_191_64 E) (by decide) (by decide)
def zw_60 : Nat → Int32 := upd zw_59 57 (vp_nar .byte 100)
def zm_193 (E : Nat → MCQ) : Mem := setC (zm_192 E) 64 (.inl (1, 122, .inl zw_60))
theorem zh_192_64 (E : Nat → MCQ) : (zm_192 E).2.2 64 = .inl (1, 122, .inl zw_59) := rfl
theorem za_193 (E : Nat → MCQ) : sB (zm_192 E) 64 57 100 = some (zm_193 E) := sB_x (i := 57) (n := 122) (f := zw_59) (zh_192_64 E) (by decide) (by decide)
def zw_61 : Nat → Int32 := upd zw_60 58 (vp_nar .byte 32)
def zm_194 (E : Nat → MCQ) : Mem := setC (zm_193 E) 64 (.inl (1, 122, .inl zw_61))
theorem zh_193_64 (E : Nat → MCQ) : (zm_193 E).2.2 64 = .inl (1, 122, .inl zw_60) := rfl
theorem za_194 (E : Nat → MCQ) : sB (zm_193 E) 64 58 32 = some (zm_194 E) := sB_x (i := 58) (n := 122) (f := zw_60) (zh_193_64 E) (by decide) (by decide)
def zw_62 : Nat → Int32 := upd zw_61 59 (vp_nar .byte 115)
def zm_195 (E : Nat → MCQ) : Mem := setC (zm_194 E) 64 (.inl (1, 122, .inl zw_62))
theorem zh_194_64 (E : Nat → MCQ) : (zm_194 E).2.2 64 = .inl (1, 122, .inl zw_61) := rfl
theorem za_195 (E : Nat → MCQ) : sB (zm_194 E) 64 59 115 = some (zm_195 E) := sB_x (i := 59) (n := 122) (f := zw_61) (zh_194_64 E) (by decide) (by decide)
def zw_63 : Nat → Int32 := upd zw_62 60 (vp_nar .byte 117)
def zm_196 (E : Nat → MCQ) : Mem := setC (zm_195 E) 64 (.inl (1, 122, .inl zw_63))
theorem zh_195_64 (E : Nat → MCQ) : (zm_195 E).2.2 64 = .inl (1, 122, .inl zw_62) := rfl
theorem za_196 (E : Nat → MCQ) : sB (zm_195 E) 64 60 117 = some (zm_196 E) := sB_x (i := 60) (n := 122) (f := zw_62) (zh_195_64 E) (by decide) (by decide)
def zw_64 : Nat → Int32 := upd zw_63 61 (vp_nar .byte 109)
def zm_197 (E : Nat → MCQ) : Mem := setC (zm_196 E) 64 (.inl (1, 122, .inl zw_64))
theorem zh_196_64 (E : Nat → MCQ) : (zm_196 E).2.2 64 = .inl (1, 122, .inl zw_63) := rfl
theorem za_197 (E : Nat → MCQ) : sB (zm_196 E) 64 61 109 = some (zm_197 E) := sB_x (i := 61) (n := 122) (f := zw_63) (zh_196_64 E) (by decide) (by decide)
def zw_65 : Nat → Int32 := upd zw_64 62 (vp_nar .byte 32)
def zm_198 (E : Nat → MCQ) : Mem := setC (zm_197 E) 64 (.inl (1, 122, .inl zw_65))
theorem zh_197_64 (E : Nat → MCQ) : (zm_197 E).2.2 64 = .inl (1, 122, .inl zw_64) := rfl
theorem za_198 (E : Nat → MCQ) : sB (zm_197 E) 64 62 32 = some (zm_198 E) := sB_x (i := 62) (n := 122) (f := zw_64) (zh_197_64 E) (by decide) (by decide)
def zw_66 : Nat → Int32 := upd zw_65 63 (vp_nar .byte 112)
def zm_199 (E : Nat → MCQ) : Mem := setC (zm_198 E) 64 (.inl (1, 122, .inl zw_66))
theorem zh_198_64 (E : Nat → MCQ) : (zm_198 E).2.2 64 = .inl (1, 122, .inl zw_65) := rfl
theorem za_199 (E : Nat → MCQ) : sB (zm_198 E) 64 63 112 = some (zm_199 E) := sB_x (i := 63) (n := 122) (f := zw_65) (zh_198_64 E) (by decide) (by decide)
def zw_67 : Nat → Int32 := upd zw_66 64 (vp_nar .byte 117)
def zm_200 (E : Nat → MCQ) : Mem := setC (zm_199 E) 64 (.inl (1, 122, .inl zw_67))
theorem zh_199_64 (E : Nat → MCQ) : (zm_199 E).2.2 64 = .inl (1, 122, .inl zw_66) := rfl
theorem za_200 (E : Nat → MCQ) : sB (zm_199 E) 64 64 117 = some (zm_200 E) := sB_x (i := 64) (n := 122) (f := zw_66) (zh_199_64 E) (by decide) (by decide)
def zw_68 : Nat → Int32 := upd zw_67 65 (vp_nar .byte 114)
def zm_201 (E : Nat → MCQ) : Mem := setC (zm_200 E) 64 (.inl (1, 122, .inl zw_68))
theorem zh_200_64 (E : Nat → MCQ) : (zm_200 E).2.2 64 = .inl (1, 122, .inl zw_67) := rfl
theorem za_201 (E : Nat → MCQ) : sB (zm_200 E) 64 65 114 = some (zm_201 E) := sB_x (i := 65) (n := 122) (f := zw_67) (zh_200_64 E) (by decide) (by decide)
def zw_69 : Nat → Int32 := upd zw_68 66 (vp_nar .byte 115)
def zm_202 (E : Nat → MCQ) : Mem := setC (zm_201 E) 64 (.inl (1, 122, .inl zw_69))
theorem zh_201_64 (E : Nat → MCQ) : (zm_201 E).2.2 64 = .inl (1, 122, .inl zw_68) := rfl
theorem za_202 (E : Nat → MCQ) : sB (zm_201 E) 64 66 115 = some (zm_202 E) := sB_x (i := 66) (n := 122) (f := zw_68) (zh_201_64 E) (by decide) (by decide)
def zw_70 : Nat → Int32 := upd zw_69 67 (vp_nar .byte 101)
def zm_203 (E : Nat → MCQ) : Mem := setC (zm_202 E) 64 (.inl (1, 122, .inl zw_70))
theorem zh_202_64 (E : Nat → MCQ) : (zm_202 E).2.2 64 = .inl (1, 122, .inl zw_69) := rfl
theorem za_203 (E : Nat → MCQ) : sB (zm_202 E) 64 67 101 = some (zm_203 E) := sB_x (i := 67) (n := 122) (f := zw_69) (zh_202_64 E) (by decide) (by decide)
def zw_71 : Nat → Int32 := upd zw_70 68 (vp_nar .byte 32)
def zm_204 (E : Nat → MCQ) : Mem := setC (zm_203 E) 64 (.inl (1, 122, .inl zw_71))
theorem zh_203_64 (E : Nat → MCQ) : (zm_203 E).2.2 64 = .inl (1, 122, .inl zw_70) := rfl
theorem za_204 (E : Nat → MCQ) : sB (zm_203 E) 64 68 32 = some (zm_204 E) := sB_x (i := 68) (n := 122) (f := zw_70) (zh_203_64 E) (by decide) (by decide)
def zw_72 : Nat → Int32 := upd zw_71 69 (vp_nar .byte 100)
def zm_205 (E : Nat → MCQ) : Mem := setC (zm_204 E) 64 (.inl (1, 122, .inl zw_72))
theorem zh_204_64 (E : Nat → MCQ) : (zm_204 E).2.2 64 = .inl (1, 122, .inl zw_71) := rfl
theorem za_205 (E : Nat → MCQ) : sB (zm_204 E) 64 69 100 = some (zm_205 E) := sB_x (i := 69) (n := 122) (f := zw_71) (zh_204_64 E) (by decide) (by decide)
def zw_73 : Nat → Int32 := upd zw_72 70 (vp_nar .byte 97)
def zm_206 (E : Nat → MCQ) : Mem := setC (zm_205 E) 64 (.inl (1, 122, .inl zw_73))
theorem zh_205_64 (E : Nat → MCQ) : (zm_205 E).2.2 64 = .inl (1, 122, .inl zw_72) := rfl
theorem za_206 (E : Nat → MCQ) : sB (zm_205 E) 64 70 97 = some (zm_206 E) := sB_x (i := 70) (n := 122) (f := zw_72) (zh_205_64 E) (by decide) (by decide)
def zw_74 : Nat → Int32 := upd zw_73 71 (vp_nar .byte 121)
def zm_207 (E : Nat → MCQ) : Mem := setC (zm_206 E) 64 (.inl (1, 122, .inl zw_74))
theorem zh_206_64 (E : Nat → MCQ) : (zm_206 E).2.2 64 = .inl (1, 122, .inl zw_73) := rfl
theorem za_207 (E : Nat → MCQ) : sB (zm_206 E) 64 71 121 = some (zm_207 E) := sB_x (i := 71) (n := 122) (f := zw_73) (zh_206_64 E) (by decide) (by decide)
def zw_75 : Nat → Int32 := upd zw_74 72 (vp_nar .byte 32)
def zm_208 (E : Nat → MCQ) : Mem := setC (zm_207 E) 64 (.inl (1, 122, .inl zw_75))
theorem zh_207_64 (E : Nat → MCQ) : (zm_207 E).2.2 64 = .inl (1, 122, .inl zw_74) := rfl
theorem za_208 (E : Nat → MCQ) : sB (zm_207 E) 64 72 32 = some (zm_208 E) := sB_x (i := 72) (n := 122) (f := zw_74) (zh_207_64 E) (by decide) (by decide)
def zw_76 : Nat → Int32 := upd zw_75 73 (vp_nar .byte 100)
def zm_209 (E : Nat → MCQ) : Mem := setC (zm_208 E) 64 (.inl (1, 122, .inl zw_76))
theorem zh_208_64 (E : Nat → MCQ) : (zm_208 E).2.2 64 = .inl (1, 122, .inl zw_75) := rfl
theorem za_209 (E : Nat → MCQ) : sB (zm_208 E) 64 73 100 = some (zm_209 E) := sB_x (i := 73) (n := 122) (f := zw_75) (zh_208_64 E) (by decide) (by decide)
def zw_77 : Nat → Int32 := upd zw_76 74 (vp_nar .byte 111)
def zm_210 (E : Nat → MCQ) : Mem := setC (zm_209 E) 64 (.inl (1, 122, .inl zw_77))
theorem zh_209_64 (E : Nat → MCQ) : (zm_209 E).2.2 64 = .inl (1, 122, .inl zw_76) := rfl
theorem za_210 (E : Nat → MCQ) : sB (zm_209 E) 64 74 111 = some (zm_210 E) := sB_x (i := 74) (n := 122) (f := zw_76) (zh_209_64 E) (by decide) (by decide)
def zw_78 : Nat → Int32 := upd zw_77 75 (vp_nar .byte 110)
def zm_211 (E : Nat → MCQ) : Mem := setC (zm_210 E) 64 (.inl (1, 122, .inl zw_78))
theorem zh_210_64 (E : Nat → MCQ) : (zm_210 E).2.2 64 = .inl (1, 122, .inl zw_77) := rfl
theorem za_211 (E : Nat → MCQ) : sB (zm_210 E) 64 75 110 = some (zm_211 E) := sB_x (i := 75) (n := 122) (f := zw_77) (zh_210_64 E) (by decide) (by decide)
def zw_79 : Nat → Int32 := upd zw_78 76 (vp_nar .byte 101)
def zm_212 (E : Nat → MCQ) : Mem := setC (zm_211 E) 64 (.inl (1, 122, .inl zw_79))
theorem zh_211_64 (E : Nat → MCQ) : (zm_211 E).2.2 64 = .inl (1, 122, .inl zw_78) := rfl
theorem za_212 (E : Nat → MCQ) : sB (zm_211 E) 64 76 101 = some (zm_212 E) := sB_x (i := 76) (n := 122) (f := zw_78) (zh_211_64 E) (by decide) (by decide)
def zw_80 : Nat → Int32 := upd zw_79 77 (vp_nar .byte 32)
def zm_213 (E : Nat → MCQ) : Mem := setC (zm_212 E) 64 (.inl (1, 122, .inl zw_80))
theorem zh_212_64 (E : Nat → MCQ) : (zm_212 E).2.2 64 = .inl (1, 122, .inl zw_79) := rfl
theorem za_213 (E : Nat → MCQ) : sB (zm_212 E) 64 77 32 = some (zm_213 E) := sB_x (i := 77) (n := 122) (f := zw_79) (zh_212_64 E) (by decide) (by decide)
def zw_81 : Nat → Int32 := upd zw_80 78 (vp_nar .byte 108)
def zm_214 (E : Nat → MCQ) : Mem := setC (zm_213 E) 64 (.inl (1, 122, .inl zw_81))
theorem zh_213_64 (E : Nat → MCQ) : (zm_213 E).2.2 64 = .inl (1, 122, .inl zw_80) := rfl
theorem za_214 (E : Nat → MCQ) : sB (zm_213 E) 64 78 108 = some (zm_214 E) := sB_x (i := 78) (n := 122) (f := zw_80) (zh_213_64 E) (by decide) (by decide)
def zw_82 : Nat → Int32 := upd zw_81 79 (vp_nar .byte 97)
def zm_215 (E : Nat → MCQ) : Mem := setC (zm_214 E) 64 (.inl (1, 122, .inl zw_82))
theorem zh_214_64 (E : Nat → MCQ) : (zm_214 E).2.2 64 = .inl (1, 122, .inl zw_81) := rfl
theorem za_215 (E : Nat → MCQ) : sB (zm_214 E) 64 79 97 = some (zm_215 E) := sB_x (i := 79) (n := 122) (f := zw_81) (zh_214_64 E) (by decide) (by decide)
def zw_83 : Nat → Int32 := upd zw_82 80 (vp_nar .byte 116)
def zm_216 (E : Nat → MCQ) : Mem := setC (zm_215 E) 64 (.inl (1, 122, .inl zw_83))
theorem zh_215_64 (E : Nat → MCQ) : (zm_215 E).2.2 64 = .inl (1, 122, .inl zw_82) := rfl
theorem za_216 (E : Nat → MCQ) : sB (zm_215 E) 64 80 116 = some (zm_216 E) := sB_x (i := 80) (n := 122) (f := zw_82) (zh_215_64 E) (by decide) (by decide)
def zw_84 : Nat → Int32 := upd zw_83 81 (vp_nar .byte 101)
def zm_217 (E : Nat → MCQ) : Mem := setC (zm_216 E) 64 (.inl (1, 122, .inl zw_84))
theorem zh_216_64 (E : Nat → MCQ) : (zm_216 E).2.2 64 = .inl (1, 122, .inl zw_83) := rfl
theorem za_217 (E : Nat → MCQ) : sB (zm_216 E) 64 81 101 = some (zm_217 E) := sB_x (i := 81) (n := 122) (f := zw_83) (zh_216_64 E) (by decide) (by decide)
def zw_85 : Nat → Int32 := upd zw_84 82 (vp_nar .byte 115)
def zm_218 (E : Nat → MCQ) : Mem := setC (zm_217 E) 64 (.inl (1, 122, .inl zw_85))
theorem zh_217_64 (E : Nat → MCQ) : (zm_217 E).2.2 64 = .inl (1, 122, .inl zw_84) := rfl
theorem za_218 (E : Nat → MCQ) : sB (zm_217 E) 64 82 115 = some (zm_218 E) := sB_x (i := 82) (n := 122) (f := zw_84) (zh_217_64 E) (by decide) (by decide)
def zw_86 : Nat → Int32 := upd zw_85 83 (vp_nar .byte 116)
def zm_219 (E : Nat → MCQ) : Mem := setC (zm_218 E) 64 (.inl (1, 122, .inl zw_86))
theorem zh_218_64 (E : Nat → MCQ) : (zm_218 E).2.2 64 = .inl (1, 122, .inl zw_85) := rfl
theorem za_219 (E : Nat → MCQ) : sB (zm_218 E) 64 83 116 = some (zm_219 E) := sB_x (i := 83) (n := 122) (f := zw_85) (zh_218_64 E) (by decide) (by decide)
def zw_87 : Nat → Int32 := upd zw_86 84 (vp_nar .byte 32)
def zm_220 (E : Nat → MCQ) : Mem := setC (zm_219 E) 64 (.inl (1, 122, .inl zw_87))
theorem zh_219_64 (E : Nat → MCQ) : (zm_219 E).2.2 64 = .inl (1, 122, .inl zw_86) := rfl
theorem za_220 (E : Nat → MCQ) : sB (zm_219 E) 64 84 32 = some (zm_220 E) := sB_x (i := 84) (n := 122) (f := zw_86) (zh_219_64 E) (by decide) (by decide)
def zw_88 : Nat → Int32 := upd zw_87 85 (vp_nar .byte 104)
def zm_221 (E : Nat → MCQ) : Mem := setC (zm_220 E) 64 (.inl (1, 122, .inl zw_88))
theorem zh_220_64 (E : Nat → MCQ) : (zm_220 E).2.2 64 = .inl (1, 122, .inl zw_87) := rfl
theorem za_221 (E : Nat → MCQ) : sB (zm_220 E) 64 85 104 = some (zm_221 E) := sB_x (i := 85) (n := 122) (f := zw_87) (zh_220_64 E) (by decide) (by decide)
def zw_89 : Nat → Int32 := upd zw_88 86 (vp_nar .byte 111)
def zm_222 (E : Nat → MCQ) : Mem := setC (zm_221 E) 64 (.inl (1, 122, .inl zw_89))
theorem zh_221_64 (E : Nat → MCQ) : (zm_221 E).2.2 64 = .inl (1, 122, .inl zw_88) := rfl
theorem za_222 (E : Nat → MCQ) : sB (zm_221 E) 64 86 111 = some (zm_222 E) := sB_x (i := 86) (n := 122) (f := zw_88) (zh_221_64 E) (by decide) (by decide)
def zw_90 : Nat → Int32 := upd zw_89 87 (vp_nar .byte 108)
def zm_223 (E : Nat → MCQ) : Mem := setC (zm_222 E) 64 (.inl (1, 122, .inl zw_90))
theorem zh_222_64 (E : Nat → MCQ) : (zm_222 E).2.2 64 = .inl (1, 122, .inl zw_89) := rfl
theorem za_223 (E : Nat → MCQ) : sB (zm_222 E) 64 87 108 = some (zm_223 E) := sB_x (i := 87) (n := 122) (f := zw_89) (zh_222_64 E) (by decide) (by decide)
def zw_91 : Nat → Int32 := upd zw_90 88 (vp_nar .byte 100)
def zm_224 (E : Nat → MCQ) : Mem := setC (zm_223 E) 64 (.inl (1, 122, .inl zw_91))
theorem zh_223_64 (E : Nat → MCQ) : (zm_223 E).2.2 64 = .inl (1, 122, .inl zw_90) := rfl
theorem za_224 (E : Nat → MCQ) : sB (zm_223 E) 64 88 100 = some (zm_224 E) := sB_x (i := 88) (n := 122) (f := zw_90) (zh_223_64 E) (by decide) (by decide)
def zw_92 : Nat → Int32 := upd zw_91 89 (vp_nar .byte 101)
def zm_225 (E : Nat → MCQ) : Mem := setC (zm_224 E) 64 (.inl (1, 122, .inl zw_92))
theorem zh_224_64 (E : Nat → MCQ) : (zm_224 E).2.2 64 = .inl (1, 122, .inl zw_91) := rfl
theorem za_225 (E : Nat → MCQ) : sB (zm_224 E) 64 89 101 = some (zm_225 E) := sB_x (i := 89) (n := 122) (f := zw_91) (zh_224_64 E) (by decide) (by decide)
def zw_93 : Nat → Int32 := upd zw_92 90 (vp_nar .byte 114)
def zm_226 (E : Nat → MCQ) : Mem := setC (zm_225 E) 64 (.inl (1, 122, .inl zw_93))
theorem zh_225_64 (E : Nat → MCQ) : (zm_225 E).2.2 64 = .inl (1, 122, .inl zw_92) := rfl
theorem za_226 (E : Nat → MCQ) : sB (zm_225 E) 64 90 114 = some (zm_226 E) := sB_x (i := 90) (n := 122) (f := zw_92) (zh_225_64 E) (by decide) (by decide)
def zw_94 : Nat → Int32 := upd zw_93 91 (vp_nar .byte 32)
def zm_227 (E : Nat → MCQ) : Mem := setC (zm_226 E) 64 (.inl (1, 122, .inl zw_94))
theorem zh_226_64 (E : Nat → MCQ) : (zm_226 E).2.2 64 = .inl (1, 122, .inl zw_93) := rfl
theorem za_227 (E : Nat → MCQ) : sB (zm_226 E) 64 91 32 = some (zm_227 E) := sB_x (i := 91) (n := 122) (f := zw_93) (zh_226_64 E) (by decide) (by decide)
def zw_95 : Nat → Int32 := upd zw_94 92 (vp_nar .byte 103)
def zm_228 (E : Nat → MCQ) : Mem := setC (zm_227 E) 64 (.inl (1, 122, .inl zw_95))
theorem zh_227_64 (E : Nat → MCQ) : (zm_227 E).2.2 64 = .inl (1, 122, .inl zw_94) := rfl
theorem za_228 (E : Nat → MCQ) : sB (zm_227 E) 64 92 103 = some (zm_228 E) := sB_x (i := 92) (n := 122) (f := zw_94) (zh_227_64 E) (by decide) (by decide)
def zw_96 : Nat → Int32 := upd zw_95 93 (vp_nar .byte 105)
def zm_229 (E : Nat → MCQ) : Mem := setC (zm_228 E) 64 (.inl (1, 122, .inl zw_96))
theorem zh_228_64 (E : Nat → MCQ) : (zm_228 E).2.2 64 = .inl (1, 122, .inl zw_95) := rfl
theorem za_229 (E : Nat → MCQ) : sB (zm_228 E) 64 93 105 = some (zm_229 E) := sB_x (i := 93) (n := 122) (f := zw_95) (zh_228_64 E) (by decide) (by decide)
def zw_97 : Nat → Int32 := upd zw_96 94 (vp_nar .byte 118)
def zm_230 (E : Nat → MCQ) : Mem := setC (zm_229 E) 64 (.inl (1, 122, .inl zw_97))
theorem zh_229_64 (E : Nat → MCQ) : (zm_229 E).2.2 64 = .inl (1, 122, .inl zw_96) := rfl
theorem za_230 (E : Nat → MCQ) : sB (zm_229 E) 64 94 118 = some (zm_230 E) := sB_x (i := 94) (n := 122) (f := zw_96) (zh_229_64 E) (by decide) (by decide)
def zw_98 : Nat → Int32 := upd zw_97 95 (vp_nar .byte 101)
def zm_231 (E : Nat → MCQ) : Mem := setC (zm_230 E) 64 (.inl (1, 122, .inl zw_98))
theorem zh_230_64 (E : Nat → MCQ) : (zm_230 E).2.2 64 = .inl (1, 122, .inl zw_97) := rfl
theorem za_231 (E : Nat → MCQ) : sB (zm_230 E) 64 95 101 = some (zm_231 E) := sB_x (i := 95) (n := 122) (f := zw_97) (zh_230_64 E) (by decide) (by decide)
def zw_99 : Nat → Int32 := upd zw_98 96 (vp_nar .byte 32)
def zm_232 (E : Nat → MCQ) : Mem := setC (zm_231 E) 64 (.inl (1, 122, .inl zw_99))
theorem zh_231_64 (E : Nat → MCQ) : (zm_231 E).2.2 64 = .inl (1, 122, .inl zw_98) := rfl
theorem za_232 (E : Nat → MCQ) : sB (zm_231 E) 64 96 32 = some (zm_232 E) := sB_x (i := 96) (n := 122) (f := zw_98) (zh_231_64 E) (by decide) (by decide)
def zw_100 : Nat → Int32 := upd zw_99 97 (vp_nar .byte 99)
def zm_233 (E : Nat → MCQ) : Mem := setC (zm_232 E) 64 (.inl (1, 122, .inl zw_100))
theorem zh_232_64 (E : Nat → MCQ) : (zm_232 E).2.2 64 = .inl (1, 122, .inl zw_99) := rfl
theorem za_233 (E : Nat → MCQ) : sB (zm_232 E) 64 97 99 = some (zm_233 E) := sB_x (i := 97) (n := 122) (f := zw_99) (zh_232_64 E) (by decide) (by decide)
def zw_101 : Nat → Int32 := upd zw_100 98 (vp_nar .byte 97)
def zm_234 (E : Nat → MCQ) : Mem := setC (zm_233 E) 64 (.inl (1, 122, .inl zw_101))
theorem zh_233_64 (E : Nat → MCQ) : (zm_233 E).2.2 64 = .inl (1, 122, .inl zw_100) := rfl
theorem za_234 (E : Nat → MCQ) : sB (zm_233 E) 64 98 97 = some (zm_234 E) := sB_x (i := 98) (n := 122) (f := zw_100) (zh_233_64 E) (by decide) (by decide)
def zw_102 : Nat → Int32 := upd zw_101 99 (vp_nar .byte 108)
def zm_235 (E : Nat → MCQ) : Mem := setC (zm_234 E) 64 (.inl (1, 122, .inl zw_102))
theorem zh_234_64 (E : Nat → MCQ) : (zm_234 E).2.2 64 = .inl (1, 122, .inl zw_101) := rfl
theorem za_235 (E : Nat → MCQ) : sB (zm_234 E) 64 99 108 = some (zm_235 E) := sB_x (i := 99) (n := 122) (f := zw_101) (zh_234_64 E) (by decide) (by decide)
def zw_103 : Nat → Int32 := upd zw_102 100 (vp_nar .byte 108)
def zm_236 (E : Nat → MCQ) : Mem := setC (zm_235 E) 64 (.inl (1, 122, .inl zw_103))
theorem zh_235_64 (E : Nat → MCQ) : (zm_235 E).2.2 64 = .inl (1, 122, .inl zw_102) := rfl
theorem za_236 (E : Nat → MCQ) : sB (zm_235 E) 64 100 108 = some (zm_236 E) := sB_x (i := 100) (n := 122) (f := zw_102) (zh_235_64 E) (by decide) (by decide)
def zw_104 : Nat → Int32 := upd zw_103 101 (vp_nar .byte 32)
def zm_237 (E : Nat → MCQ) : Mem := setC (zm_236 E) 64 (.inl (1, 122, .inl zw_104))
theorem zh_236_64 (E : Nat → MCQ) : (zm_236 E).2.2 64 = .inl (1, 122, .inl zw_103) := rfl
theorem za_237 (E : Nat → MCQ) : sB (zm_236 E) 64 101 32 = some (zm_237 E) := sB_x (i := 101) (n := 122) (f := zw_103) (zh_236_64 E) (by decide) (by decide)
def zw_105 : Nat → Int32 := upd zw_104 102 (vp_nar .byte 115)
def zm_238 (E : Nat → MCQ) : Mem := setC (zm_237 E) 64 (.inl (1, 122, .inl zw_105))
theorem zh_237_64 (E : Nat → MCQ) : (zm_237 E).2.2 64 = .inl (1, 122, .inl zw_104) := rfl
theorem za_238 (E : Nat → MCQ) : sB (zm_237 E) 64 102 115 = some (zm_238 E) := sB_x (i := 102) (n := 122) (f := zw_104) (zh_237_64 E) (by decide) (by decide)
def zw_106 : Nat → Int32 := upd zw_105 103 (vp_nar .byte 104)
def zm_239 (E : Nat → MCQ) : Mem := setC (zm_238 E) 64 (.inl (1, 122, .inl zw_106))
theorem zh_238_64 (E : Nat → MCQ) : (zm_238 E).2.2 64 = .inl (1, 122, .inl zw_105) := rfl
theorem za_239 (E : Nat → MCQ) : sB (zm_238 E) 64 103 104 = some (zm_239 E) := sB_x (i := 103) (n := 122) (f := zw_105) (zh_238_64 E) (by decide) (by decide)
def zw_107 : Nat → Int32 := upd zw_106 104 (vp_nar .byte 97)
def zm_240 (E : Nat → MCQ) : Mem := setC (zm_239 E) 64 (.inl (1, 122, .inl zw_107))
theorem zh_239_64 (E : Nat → MCQ) : (zm_239 E).2.2 64 = .inl (1, 122, .inl zw_106) := rfl
theorem za_240 (E : Nat → MCQ) : sB (zm_239 E) 64 104 97 = some (zm_240 E) := sB_x (i := 104) (n := 122) (f := zw_106) (zh_239_64 E) (by decide) (by decide)
def zw_108 : Nat → Int32 := upd zw_107 105 (vp_nar .byte 118)
def zm_241 (E : Nat → MCQ) : Mem := setC (zm_240 E) 64 (.inl (1, 122, .inl zw_108))
theorem zh_240_64 (E : Nat → MCQ) : (zm_240 E).2.2 64 = .inl (1, 122, .inl zw_107) := rfl
theorem za_241 (E : Nat → MCQ) : sB (zm_240 E) 64 105 118 = some (zm_241 E) := sB_x (i := 105) (n := 122) (f := zw_107) (zh_240_64 E) (by decide) (by decide)
def zw_109 : Nat → Int32 := upd zw_108 106 (vp_nar .byte 101)
def zm_242 (E : Nat → MCQ) : Mem := setC (zm_241 E) 64 (.inl (1, 122, .inl zw_109))
theorem zh_241_64 (E : Nat → MCQ) : (zm_241 E).2.2 64 = .inl (1, 122, .inl zw_108) := rfl
theorem za_242 (E : Nat → MCQ) : sB (zm_241 E) 64 106 101 = some (zm_242 E) := sB_x (i := 106) (n := 122) (f := zw_108) (zh_241_64 E) (by decide) (by decide)
def zw_110 : Nat → Int32 := upd zw_109 107 (vp_nar .byte 32)
def zm_243 (E : Nat → MCQ) : Mem := setC (zm_242 E) 64 (.inl (1, 122, .inl zw_110))
theorem zh_242_64 (E : Nat → MCQ) : (zm_242 E).2.2 64 = .inl (1, 122, .inl zw_109) := rfl
theorem za_243 (E : Nat → MCQ) : sB (zm_242 E) 64 107 32 = some (zm_243 E) := sB_x (i := 107) (n := 122) (f := zw_109) (zh_242_64 E) (by decide) (by decide)
def zw_111 : Nat → Int32 := upd zw_110 108 (vp_nar .byte 98)
def zm_244 (E : Nat → MCQ) : Mem := setC (zm_243 E) 64 (.inl (1, 122, .inl zw_111))
theorem zh_243_64 (E : Nat → MCQ) : (zm_243 E).2.2 64 = .inl (1, 122, .inl zw_110) := rfl
theorem za_244 (E : Nat → MCQ) : sB (zm_243 E) 64 108 98 = some (zm_244 E) := sB_x (i := 108) (n := 122) (f := zw_110) (zh_243_64 E) (by decide) (by decide)
def zw_112 : Nat → Int32 := upd zw_111 109 (vp_nar .byte 121)
def zm_245 (E : Nat → MCQ) : Mem := setC (zm_244 E) 64 (.inl (1, 122, .inl zw_112))
theorem zh_244_64 (E : Nat → MCQ) : (zm_244 E).2.2 64 = .inl (1, 122, .inl zw_111) := rfl
theorem za_245 (E : Nat → MCQ) : sB (zm_244 E) 64 109 121 = some (zm_245 E) := sB_x (i := 109) (n := 122) (f := zw_111) (zh_244_64 E) (by decide) (by decide)
def zw_113 : Nat → Int32 := upd zw_112 110 (vp_nar .byte 32)
def zm_246 (E : Nat → MCQ) : Mem := setC (zm_245 E) 64 (.inl (1, 122, .inl zw_113))
theorem zh_245_64 (E : Nat → MCQ) : (zm_245 E).2.2 64 = .inl (1, 122, .inl zw_112) := rfl
theorem za_246 (E : Nat → MCQ) : sB (zm_245 E) 64 110 32 = some (zm_246 E) := sB_x (i := 110) (n := 122) (f := zw_112) (zh_245_64 E) (by decide) (by decide)
def zw_114 : Nat → Int32 := upd zw_113 111 (vp_nar .byte 112)
def zm_247 (E : Nat → MCQ) : Mem := setC (zm_246 E) 64 (.inl (1, 122, .inl zw_114))
theorem zh_246_64 (E : Nat → MCQ) : (zm_246 E).2.2 64 = .inl (1, 122, .inl zw_113) := rfl
theorem za_247 (E : Nat → MCQ) : sB (zm_246 E) 64 111 112 = some (zm_247 E) := sB_x (i := 111) (n := 122) (f := zw_113) (zh_246_64 E) (by decide) (by decide)
def zw_115 : Nat → Int32 := upd zw_114 112 (vp_nar .byte 97)
def zm_248 (E : Nat → MCQ) : Mem := setC (zm_247 E) 64 (.inl (1, 122, .inl zw_115))
theorem zh_247_64 (E : Nat → MCQ) : (zm_247 E).2.2 64 = .inl (1, 122, .inl zw_114) := rfl
theorem za_248 (E : Nat → MCQ) : sB (zm_247 E) 64 112 97 = some (zm_248 E) := sB_x (i := 112) (n := 122) (f := zw_114) (zh_247_64 E) (by decide) (by decide)
def zw_116 : Nat → Int32 := upd zw_115 113 (vp_nar .byte 115)
def zm_249 (E : Nat → MCQ) : Mem := setC (zm_248 E) 64 (.inl (1, 122, .inl zw_116))
theorem zh_248_64 (E : Nat → MCQ) : (zm_248 E).2.2 64 = .inl (1, 122, .inl zw_115) := rfl
theorem za_249 (E : Nat → MCQ) : sB (zm_248 E) 64 113 115 = some (zm_249 E) := sB_x (i := 113) (n := 122) (f := zw_115) (zh_248_64 E) (by decide) (by decide)
def zw_117 : Nat → Int32 := upd zw_116 114 (vp_nar .byte 115)
def zm_250 (E : Nat → MCQ) : Mem := setC (zm_249 E) 64 (.inl (1, 122, .inl zw_117))
theorem zh_249_64 (E : Nat → MCQ) : (zm_249 E).2.2 64 = .inl (1, 122, .inl zw_116) := rfl
theorem za_250 (E : Nat → MCQ) : sB (zm_249 E) 64 114 115 = some (zm_250 E) := sB_x (i := 114) (n := 122) (f := zw_116) (zh_249_64 E) (by decide) (by decide)
def zw_118 : Nat → Int32 := upd zw_117 115 (vp_nar .byte 32)
def zm_251 (E : Nat → MCQ) : Mem := setC (zm_250 E) 64 (.inl (1, 122, .inl zw_118))
theorem zh_250_64 (E : Nat → MCQ) : (zm_250 E).2.2 64 = .inl (1, 122, .inl zw_117) := rfl
theorem za_251 (E : Nat → MCQ) : sB (zm_250 E) 64 115 32 = some (zm_251 E) := sB_x (i := 115) (n := 122) (f := zw_117) (zh_250_64 E) (by decide) (by decide)
def zw_119 : Nat → Int32 := upd zw_118 116 (vp_nar .byte 116)
def zm_252 (E : Nat → MCQ) : Mem := setC (zm_251 E) 64 (.inl (1, 122, .inl zw_119))
theorem zh_251_64 (E : Nat → MCQ) : (zm_251 E).2.2 64 = .inl (1, 122, .inl zw_118) := rfl
theorem za_252 (E : Nat → MCQ) : sB (zm_251 E) 64 116 116 = some (zm_252 E) := sB_x (i := 116) (n := 122) (f := zw_118) (zh_251_64 E) (by decide) (by decide)
def zw_120 : Nat → Int32 := upd zw_119 117 (vp_nar .byte 105)
def zm_253 (E : Nat → MCQ) : Mem := setC (zm_252 E) 64 (.inl (1, 122, .inl zw_120))
theorem zh_252_64 (E : Nat → MCQ) : (zm_252 E).2.2 64 = .inl (1, 122, .inl zw_119) := rfl
theorem za_253 (E : Nat → MCQ) : sB (zm_252 E) 64 117 105 = some (zm_253 E) := sB_x (i := 117) (n := 122) (f := zw_119) (zh_252_64 E) (by decide) (by decide)
def zw_121 : Nat → Int32 := upd zw_120 118 (vp_nar .byte 109)
def zm_254 (E : Nat → MCQ) : Mem := setC (zm_253 E) 64 (.inl (1, 122, .inl zw_121))
theorem zh_253_64 (E : Nat → MCQ) : (zm_253 E).2.2 64 = .inl (1, 122, .inl zw_120) := rfl
theorem za_254 (E : Nat → MCQ) : sB (zm_253 E) 64 118 109 = some (zm_254 E) := sB_x (i := 118) (n := 122) (f := zw_120) (zh_253_64 E) (by decide) (by decide)
def zw_122 : Nat → Int32 := upd zw_121 119 (vp_nar .byte 101)
def zm_255 (E : Nat → MCQ) : Mem := setC (zm_254 E) 64 (.inl (1, 122, .inl zw_122))
theorem zh_254_64 (E : Nat → MCQ) : (zm_254 E).2.2 64 = .inl (1, 122, .inl zw_121) := rfl
theorem za_255 (E : Nat → MCQ) : sB (zm_254 E) 64 119 101 = some (zm_255 E) := sB_x (i := 119) (n := 122) (f := zw_121) (zh_254_64 E) (by decide) (by decide)
def zw_123 : Nat → Int32 := upd zw_122 120 (vp_nar .byte 115)
def zm_256 (E : Nat → MCQ) : Mem := setC (zm_255 E) 64 (.inl (1, 122, .inl zw_123))
theorem zh_255_64 (E : Nat → MCQ) : (zm_255 E).2.2 64 = .inl (1, 122, .inl zw_122) := rfl
theorem za_256 (E : Nat → MCQ) : sB (zm_255 E) 64 120 115 = some (zm_256 E) := sB_x (i := 120) (n := 122) (f := zw_122) (zh_255_64 E) (by decide) (by decide)
def zw_124 : Nat → Int32 := upd zw_123 121 (vp_nar .byte 32)
def zm_257 (E : Nat → MCQ) : Mem := setC (zm_256 E) 64 (.inl (1, 122, .inl zw_124))
theorem zh_256_64 (E : Nat → MCQ) : (zm_256 E).2.2 64 = .inl (1, 122, .inl zw_123) := rfl
theorem za_257 (E : Nat → MCQ) : sB (zm_256 E) 64 121 32 = some (zm_257 E) := sB_x (i := 121) (n := 122) (f := zw_123) (zh_256_64 E) (by decide) (by decide)
def zm_258 (E : Nat → MCQ) : Mem := setC (zm_257 E) 58 (.inr (9, [.int 0, .ref 59, .ref 60, .ref 61, .ref 62, .ref 63, .int 0, .ref 64, .int 0, .int 0, .int 0, .null, .null, .int 0, .int 0, .null, .null, .null, .int 0, .int 0, .int 0, .int 0, .int 0, .int 0, .int 0, .int 0, .null, .int 0, .int 0, .null, .null, .int 0, .null, .null, .null, .null, .null, .null, .int 0, .null, .null, .null, .int 0, .int 0, .int 0, .int 0, .int 0, .int 0, .int 0, .null, .null, .null, .null, .int 0, .int 0, .int 0]))
set_option maxRecDepth 20000 in
theorem zh_257_58 (E : Nat → MCQ) : (zm_257 E).2.2 58 = .inr (9, [.int 0, .ref 59, .ref 60, .ref 61, .ref 62, .ref 63, .int 0, .null, .int 0, .int 0, .int 0, .null, .null, .int 0, .int 0, .null, .null, .null, .int 0, .int 0, .int 0, .int 0, .int 0, .int 0, .int 0, .int 0, .null, .int 0, .int 0, .null, .null, .int 0, .null, .null, .null, .null, .null, .null, .int 0, .null, .null, .null, .int 0, .int 0, .int 0, .int 0, .int 0, .int 0, .int 0, .null, .null, .null, .null, .int 0, .int 0, .int 0]) := rfl
theorem za_258 (E : Nat → MCQ) : pF (zm_257 E) 9 58 7 (.ref 64) = some (zm_258 E) := pF_x (fs := [.int 0, .ref 59, .ref 60, .ref 61, .ref 62, .ref 63, .int 0, .null, .int 0, .int 0, .int 0, .null, .null, .int 0, .int 0, .null, .null, .null, .int 0, .int 0, .int 0, .int 0, .int 0, .int 0, .int 0, .int 0, .null, .int 0, .int 0, .null, .null, .int 0, .null, .null, .null, .null, .null, .null, .int 0, .null, .null, .null, .int 0, .int 0, .int 0, .int 0, .int 0, .int 0, .int 0, .null, .null, .null, .null, .int 0, .int 0, .int 0]) (zh_257_58 E) rfl rfl
def zm_259 (E : Nat → MCQ) : Mem := addC (zm_258 E) 400 (ARt 1 400)
set_option maxRecDepth 20000 in
theorem zl_258 (E : Nat → MCQ) : (zm_258 E).1 = 65 := rfl
theorem za_259 (E : Nat → MCQ) : newA (zm_258 E) 1 400 = some (65, zm_259 E) := nA_x (n := 400) (by decide) (zl_258 E)
def zm_260 (E : Nat → MCQ) : Mem := setC (zm_259 E) 58 (.inr (9, [.int 0, .ref 59, .ref 60, .ref 61, .ref 62, .ref 63, .int 0, .ref 64, .int 0, .int 0, .int 0, .ref 65, .null, .int 0, .int 0, .null, .null, .null, .int 0, .int 0, .int 0, .int 0, .int 0, .int 0, .int 0, .int 0, .null, .int 0, .int 0, .null, .null, .int 0, .null, .null, .null, .null, .null, .null, .int 0, .null, .null, .null, .int 0, .int 0, .int 0, .int 0, .int 0, .int 0, .int 0, .null, .null, .null, .null, .int 0, .int 0, .int 0]))
theorem zh_259_58 (E : Nat → MCQ) : (zm_259 E).2.2 58 = .inr (9, [.int 0, .ref 59, .ref 60, .ref 61, .ref 62, .ref 63, .int 0, .ref 64, .int 0, .int 0, .int 0, .null, .null, .int 0, .int 0, .null, .null, .null, .int 0, .int 0, .int 0, .int 0, .int 0, .int 0, .int 0, .int 0, .null, .int 0, .int 0, .null, .null, .int 0, .null, .null, .null, .null, .null, .null, .int 0, .null, .null, .null, .int 0, .int 0, .int 0, .int 0, .int 0, .int 0, .int 0, .null, .null, .null, .null, .int 0, .int 0, .int 0]) := rfl
theorem za_260 (E : Nat → MCQ) : pF (zm_259 E) 9 58 11 (.ref 65) = some (zm_260 E) := pF_x (fs := [.int 0, .ref 59, .ref 60, .ref 61, .ref 62, .ref 63, .int 0, .ref 64, .int 0, .int 0, .int 0, .null, .null, .int 0, .int 0, .null, .null, .null, .int 0, .int 0, .int 0, .int 0, .int 0, .int 0, .int 0, .int 0, .null, .int 0, .int 0, .null, .null, .int 0, .null, .null, .null, .null, .null, .null, .int 0, .null, .null, .null, .int 0, .int 0, .int 0, .int 0, .int 0, .int 0, .int 0, .null, .null, .null, .null, .int 0, .int 0, .int 0]) (zh_259_58 E) rfl rfl
def zm_261 (E : Nat → MCQ) : Mem := addC (zm_260 E) 5 (ARt 0 5)
set_option maxRecDepth 20000 in
theorem zl_260 (E : Nat → MCQ) : (zm_260 E).1 = 66 := rfl
theorem za_261 (E : Nat → MCQ) : newA (zm_260 E) 0 5 = some (66, zm_261 E) := nA_x (n := 5) (by decide) (zl_260 E)
def zm_262 (E : Nat → MCQ) : Mem := setC (zm_261 E) 58 (.inr (9, [.int 0, .ref 59, .ref 60, .ref 61, .ref 62, .ref 63, .int 0, .ref 64, .int 0, .int 0, .int 0, .ref 65, .ref 66, .int 0, .int 0, .null, .null, .null, .int 0, .int 0, .int 0, .int 0, .int 0, .int 0, .int 0, .int 0, .null, .int 0, .int 0, .null, .null, .int 0, .null, .null, .null, .null, .null, .null, .int 0, .null, .null, .null, .int 0, .int 0, .int 0, .int 0, .int 0, .int 0, .int 0, .null, .null, .null, .null, .int 0, .int 0, .int 0]))
theorem zh_261_58 (E : Nat → MCQ) : (zm_261 E).2.2 58 = .inr (9, [.int 0, .ref 59, .ref 60, .ref 61, .ref 62, .ref 63, .int 0, .ref 64, .int 0, .int 0, .int 0, .ref 65, .null, .int 0, .int 0, .null, .null, .null, .int 0, .int 0, .int 0, .int 0, .int 0, .int 0, .int 0, .int 0, .null, .int 0, .int 0, .null, .null, .int 0, .null, .null, .null, .null, .null, .null, .int 0, .null, .null, .null, .int 0, .int 0, .int 0, .int 0, .int 0, .int 0, .int 0, .null, .null, .null, .null, .int 0, .int 0, .int 0]) := rfl
theorem za_262 (E : Nat → MCQ) : pF (zm_261 E) 9 58 12 (.ref 66) = some (zm_262 E) := pF_x (fs := [.int 0, .ref 59, .ref 60, .ref 61, .ref 62, .ref 63, .int 0, .ref 64, .int 0, .int 0, .int 0, .ref 65, .null, .int 0, .int 0, .null, .null, .null, .int 0, .int 0, .int 0, .int 0, .int 0, .int 0, .int 0, .int 0, .null, .int 0, .int 0, .null, .null, .int 0, .null, .null, .null, .null, .null, .null, .int 0, .null, .null, .null, .int 0, .int 0, .int 0, .int 0, .int 0, .int 0, .int 0, .null, .null, .null, .null, .int 0, .int 0, .int 0]) (zh_261_58 E) rfl rfl
def zm_263 (E : Nat → MCQ) : Mem := setC (zm_262 E) 58 (.inr (9, [.int 0, .ref 59, .ref 60, .ref 61, .ref 62, .ref 63, .int 0, .ref 64, .int 0, .int 0, .int 0, .ref 65, .ref 66, .int 0, .int (-1), .null, .null, .null, .int 0, .int 0, .int 0, .int 0, .int 0, .int 0, .int 0, .int 0, .null, .int 0, .int 0, .null, .null, .int 0, .null, .null, .null, .null, .null, .null, .int 0, .null, .null, .null, .int 0, .int 0, .int 0, .int 0, .int 0, .int 0, .int 0, .null, .null, .null, .null, .int 0, .int 0, .int 0]))
theorem zh_262_58 (E : Nat → MCQ) : (zm_262 E).2.2 58 = .inr (9, [.int 0, .ref 59, .ref 60, .ref 61, .ref 62, .ref 63, .int 0, .ref 64, .int 0, .int 0, .int 0, .ref 65, .ref 66, .int 0, .int 0, .null, .null, .null, .int 0, .int 0, .int 0, .int 0, .int 0, .int 0, .int 0, .int 0, .null, .int 0, .int 0, .null, .null, .int 0, .null, .null, .null, .null, .null, .null, .int 0, .null, .null, .null, .int 0, .int 0, .int 0, .int 0, .int 0, .int 0, .int 0, .null, .null, .null, .null, .int 0, .int 0, .int 0]) := rfl
theorem za_263 (E : Nat → MCQ) : pF (zm_262 E) 9 58 14 (.int (-1)) = some (zm_263 E) := pF_x (fs := [.int 0, .ref 59, .ref 60, .ref 61, .ref 62, .ref 63, .int 0, .ref 64, .int 0, .int 0, .int 0, .ref 65, .ref 66, .int 0, .int 0, .null, .null, .null, .int 0, .int 0, .int 0, .int 0, .int 0, .int 0, .int 0, .int 0, .null, .int 0, .int 0, .null, .null, .int 0, .null, .null, .null, .null, .null, .null, .int 0, .null, .null, .null, .int 0, .int 0, .int 0, .int 0, .int 0, .int 0, .int 0, .null, .null, .null, .null, .int 0, .int 0, .int 0]) (zh_262_58 E) rfl rfl
def zm_264 (E : Nat → MCQ) : Mem := addC (zm_263 E) 401 (ARt 0 401)
set_option maxRecDepth 20000 in
theorem zl_263 (E : Nat → MCQ) : (zm_263 E).1 = 67 := rfl
theorem za_264 (E : Nat → MCQ) : newA (zm_263 E) 0 401 = some (67, zm_264 E) := nA_x (n := 401) (by decide) (zl_263 E)
def zm_265 (E : Nat → MCQ) : Mem := setC (zm_264 E) 58 (.inr (9, [.int 0, .ref 59, .ref 60, .ref 61, .ref 62, .ref 63, .int 0, .ref 64, .int 0, .int 0, .int 0, .ref 65, .ref 66, .int 0, .int (-1), .ref 67, .null, .null, .int 0, .int 0, .int 0, .int 0, .int 0, .int 0, .int 0, .int 0, .null, .int 0, .int 0, .null, .null, .int 0, .null, .null, .null, .null, .null, .null, .int 0, .null, .null, .null, .int 0, .int 0, .int 0, .int 0, .int 0, .int 0, .int 0, .null, .null, .null, .null, .int 0, .int 0, .int 0]))
theorem zh_264_58 (E : Nat → MCQ) : (zm_264 E).2.2 58 = .inr (9, [.int 0, .ref 59, .ref 60, .ref 61, .ref 62, .ref 63, .int 0, .ref 64, .int 0, .int 0, .int 0, .ref 65, .ref 66, .int 0, .int (-1), .null, .null, .null, .int 0, .int 0, .int 0, .int 0, .int 0, .int 0, .int 0, .int 0, .null, .int 0, .int 0, .null, .null, .int 0, .null, .null, .null, .null, .null, .null, .int 0, .null, .null, .null, .int 0, .int 0, .int 0, .int 0, .int 0, .int 0, .int 0, .null, .null, .null, .null, .int 0, .int 0, .int 0]) := rfl
theorem za_265 (E : Nat → MCQ) : pF (zm_264 E) 9 58 15 (.ref 67) = some (zm_265 E) := pF_x (fs := [.int 0, .ref 59, .ref 60, .ref 61, .ref 62, .ref 63, .int 0, .ref 64, .int 0, .int 0, .int 0, .ref 65, .ref 66, .int 0, .int (-1), .null, .null, .null, .int 0, .int 0, .int 0, .int 0, .int 0, .int 0, .int 0, .int 0, .null, .int 0, .int 0, .null, .null, .int 0, .null, .null, .null, .null, .null, .null, .int 0, .null, .null, .null, .int 0, .int 0, .int 0, .int 0, .int 0, .int 0, .int 0, .null, .null, .null, .null, .int 0, .int 0, .int 0]) (zh_264_58 E) rfl rfl
def zm_266 (E : Nat → MCQ) : Mem := addC (zm_265 E) 401 (ARt 0 401)
set_option maxRecDepth 20000 in
theorem zl_265 (E : Nat → MCQ) : (zm_265 E).1 = 68 := rfl
theorem za_266 (E : Nat → MCQ) : newA (zm_265 E) 0 401 = some (68, zm_266 E) := nA_x (n := 401) (by decide) (zl_265 E)
def zm_267 (E : Nat → MCQ) : Mem := setC (zm_266 E) 58 (.inr (9, [.int 0, .ref 59, .ref 60, .ref 61, .ref 62, .ref 63, .int 0, .ref 64, .int 0, .int 0, .int 0, .ref 65, .ref 66, .int 0, .int (-1), .ref 67, .ref 68, .null, .int 0, .int 0, .int 0, .int 0, .int 0, .int 0, .int 0, .int 0, .null, .int 0, .int 0, .null, .null, .int 0, .null, .null, .null, .null, .null, .null, .int 0, .null, .null, .null, .int 0, .int 0, .int 0, .int 0, .int 0, .int 0, .int 0, .null, .null, .null, .null, .int 0, .int 0, .int 0]))
theorem zh_266_58 (E : Nat → MCQ) : (zm_266 E).2.2 58 = .inr (9, [.int 0, .ref 59, .ref 60, .ref 61, .ref 62, .ref 63, .int 0, .ref 64, .int 0, .int 0, .int 0, .ref 65, .ref 66, .int 0, .int (-1), .ref 67, .null, .null, .int 0, .int 0, .int 0, .int 0, .int 0, .int 0, .int 0, .int 0, .null, .int 0, .int 0, .null, .null, .int 0, .null, .null, .null, .null, .null, .null, .int 0, .null, .null, .null, .int 0, .int 0, .int 0, .int 0, .int 0, .int 0, .int 0, .null, .null, .null, .null, .int 0, .int 0, .int 0]) := rfl
theorem za_267 (E : Nat → MCQ) : pF (zm_266 E) 9 58 16 (.ref 68) = some (zm_267 E) := pF_x (fs := [.int 0, .ref 59, .ref 60, .ref 61, .ref 62, .ref 63, .int 0, .ref 64, .int 0, .int 0, .int 0, .ref 65, .ref 66, .int 0, .int (-1), .ref 67, .null, .null, .int 0, .int 0, .int 0, .int 0, .int 0, .int 0, .int 0, .int 0, .null, .int 0, .int 0, .null, .null, .int 0, .null, .null, .null, .null, .null, .null, .int 0, .null, .null, .null, .int 0, .int 0, .int 0, .int 0, .int 0, .int 0, .int 0, .null, .null, .null, .null, .int 0, .int 0, .int 0]) (zh_266_58 E) rfl rfl
def zm_268 (E : Nat → MCQ) : Mem := addC (zm_267 E) 401 (ARt 0 401)
set_option maxRecDepth 20000 in
theorem zl_267 (E : Nat → MCQ) : (zm_267 E).1 = 69 := rfl
theorem za_268 (E : Nat → MCQ) : newA (zm_267 E) 0 401 = some (69, zm_268 E) := nA_x (n := 401) (by decide) (zl_267 E)
def zm_269 (E : Nat → MCQ) : Mem := setC (zm_268 E) 58 (.inr (9, [.int 0, .ref 59, .ref 60, .ref 61, .ref 62, .ref 63, .int 0, .ref 64, .int 0, .int 0, .int 0, .ref 65, .ref 66, .int 0, .int (-1), .ref 67, .ref 68, .ref 69, .int 0, .int 0, .int 0, .int 0, .int 0, .int 0, .int 0, .int 0, .null, .int 0, .int 0, .null, .null, .int 0, .null, .null, .null, .null, .null, .null, .int 0, .null, .null, .null, .int 0, .int 0, .int 0, .int 0, .int 0, .int 0, .int 0, .null, .null, .null, .null, .int 0, .int 0, .int 0]))
theorem zh_268_58 (E : Nat → MCQ) : (zm_268 E).2.2 58 = .inr (9, [.int 0, .ref 59, .ref 60, .ref 61, .ref 62, .ref 63, .int 0, .ref 64, .int 0, .int 0, .int 0, .ref 65, .ref 66, .int 0, .int (-1), .ref 67, .ref 68, .null, .int 0, .int 0, .int 0, .int 0, .int 0, .int 0, .int 0, .int 0, .null, .int 0, .int 0, .null, .null, .int 0, .null, .null, .null, .null, .null, .null, .int 0, .null, .null, .null, .int 0, .int 0, .int 0, .int 0, .int 0, .int 0, .int 0, .null, .null, .null, .null, .int 0, .int 0, .int 0]) := rfl
theorem za_269 (E : Nat → MCQ) : pF (zm_268 E) 9 58 17 (.ref 69) = some (zm_269 E) := pF_x (fs := [.int 0, .ref 59, .ref 60, .ref 61, .ref 62, .ref 63, .int 0, .ref 64, .int 0, .int 0, .int 0, .ref 65, .ref 66, .int 0, .int (-1), .ref 67, .ref 68, .null, .int 0, .int 0, .int 0, .int 0, .int 0, .int 0, .int 0, .int 0, .null, .int 0, .int 0, .null, .null, .int 0, .null, .null, .null, .null, .null, .null, .int 0, .null, .null, .null, .int 0, .int 0, .int 0, .int 0, .int 0, .int 0, .int 0, .null, .null, .null, .null, .int 0, .int 0, .int 0]) (zh_268_58 E) rfl rfl
def zm_270 (E : Nat → MCQ) : Mem := addC (zm_269 E) 9 (ARt 0 9)
set_option maxRecDepth 20000 in
theorem zl_269 (E : Nat → MCQ) : (zm_269 E).1 = 70 := rfl
theorem za_270 (E : Nat → MCQ) : newA (zm_269 E) 0 9 = some (70, zm_270 E) := nA_x (n := 9) (by decide) (zl_269 E)
def zm_271 (E : Nat → MCQ) : Mem := setC (zm_270 E) 58 (.inr (9, [.int 0, .ref 59, .ref 60, .ref 61, .ref 62, .ref 63, .int 0, .ref 64, .int 0, .int 0, .int 0, .ref 65, .ref 66, .int 0, .int (-1), .ref 67, .ref 68, .ref 69, .int 0, .int 0, .int 0, .int 0, .int 0, .int 0, .int 0, .int 0, .ref 70, .int 0, .int 0, .null, .null, .int 0, .null, .null, .null, .null, .null, .null, .int 0, .null, .null, .null, .int 0, .int 0, .int 0, .int 0, .int 0, .int 0, .int 0, .null, .null, .null, .null, .int 0, .int 0, .int 0]))
theorem zh_270_58 (E : Nat → MCQ) : (zm_270 E).2.2 58 = .inr (9, [.int 0, .ref 59, .ref 60, .ref 61, .ref 62, .ref 63, .int 0, .ref 64, .int 0, .int 0, .int 0, .ref 65, .ref 66, .int 0, .int (-1), .ref 67, .ref 68, .ref 69, .int 0, .int 0, .int 0, .int 0, .int 0, .int 0, .int 0, .int 0, .null, .int 0, .int 0, .null, .null, .int 0, .null, .null, .null, .null, .null, .null, .int 0, .null, .null, .null, .int 0, .int 0, .int 0, .int 0, .int 0, .int 0, .int 0, .null, .null, .null, .null, .int 0, .int 0, .int 0]) := rfl
theorem za_271 (E : Nat → MCQ) : pF (zm_270 E) 9 58 26 (.ref 70) = some (zm_271 E) := pF_x (fs := [.int 0, .ref 59, .ref 60, .ref 61, .ref 62, .ref 63, .int 0, .ref 64, .int 0, .int 0, .int 0, .ref 65, .ref 66, .int 0, .int (-1), .ref 67, .ref 68, .ref 69, .int 0, .int 0, .int 0, .int 0, .int 0, .int 0, .int 0, .int 0, .null, .int 0, .int 0, .null, .null, .int 0, .null, .null, .null, .null, .null, .null, .int 0, .null, .null, .null, .int 0, .int 0, .int 0, .int 0, .int 0, .int 0, .int 0, .null, .null, .null, .null, .int 0, .int 0, .int 0]) (zh_270_58 E) rfl rfl
def zm_272 (E : Nat → MCQ) : Mem := addC (zm_271 E) 608 (ARt 0 608)
set_option maxRecDepth 20000 in
theorem zl_271 (E : Nat → MCQ) : (zm_271 E).1 = 71 := rfl
theorem za_272 (E : Nat → MCQ) : newA (zm_271 E) 0 608 = some (71, zm_272 E) := nA_x (n := 608) (by decide) (zl_271 E)
def zm_273 (E : Nat → MCQ) : Mem := setC (zm_272 E) 58 (.inr (9, [.int 0, .ref 59, .ref 60, .ref 61, .ref 62, .ref 63, .int 0, .ref 64, .int 0, .int 0, .int 0, .ref 65, .ref 66, .int 0, .int (-1), .ref 67, .ref 68, .ref 69, .int 0, .int 0, .int 0, .int 0, .int 0, .int 0, .int 0, .int 0, .ref 70, .int 0, .int 0, .ref 71, .null, .int 0, .null, .null, .null, .null, .null, .null, .int 0, .null, .null, .null, .int 0, .int 0, .int 0, .int 0, .int 0, .int 0, .int 0, .null, .null, .null, .null, .int 0, .int 0, .int 0]))
theorem zh_272_58 (E : Nat → MCQ) : (zm_272 E).2.2 58 = .inr (9, [.int 0, .ref 59, .ref 60, .ref 61, .ref 62, .ref 63, .int 0, .ref 64, .int 0, .int 0, .int 0, .ref 65, .ref 66, .int 0, .int (-1), .ref 67, .ref 68, .ref 69, .int 0, .int 0, .int 0, .int 0, .int 0, .int 0, .int 0, .int 0, .ref 70, .int 0, .int 0, .null, .null, .int 0, .null, .null, .null, .null, .null, .null, .int 0, .null, .null, .null, .int 0, .int 0, .int 0, .int 0, .int 0, .int 0, .int 0, .null, .null, .null, .null, .int 0, .int 0, .int 0]) := rfl
theorem za_273 (E : Nat → MCQ) : pF (zm_272 E) 9 58 29 (.ref 71) = some (zm_273 E) := pF_x (fs := [.int 0, .ref 59, .ref 60, .ref 61, .ref 62, .ref 63, .int 0, .ref 64, .int 0, .int 0, .int 0, .ref 65, .ref 66, .int 0, .int (-1), .ref 67, .ref 68, .ref 69, .int 0, .int 0, .int 0, .int 0, .int 0, .int 0, .int 0, .int 0, .ref 70, .int 0, .int 0, .null, .null, .int 0, .null, .null, .null, .null, .null, .null, .int 0, .null, .null, .null, .int 0, .int 0, .int 0, .int 0, .int 0, .int 0, .int 0, .null, .null, .null, .null, .int 0, .int 0, .int 0]) (zh_272_58 E) rfl rfl
def zm_274 (E : Nat → MCQ) : Mem := addC (zm_273 E) 608 (ARt 0 608)
set_option maxRecDepth 20000 in
theorem zl_273 (E : Nat → MCQ) : (zm_273 E).1 = 72 := rfl
theorem za_274 (E : Nat → MCQ) : newA (zm_273 E) 0 608 = some (72, zm_274 E) := nA_x (n := 608) (by decide) (zl_273 E)
def zm_275 (E : Nat → MCQ) : Mem := setC (zm_274 E) 58 (.inr (9, [.int 0, .ref 59, .ref 60, .ref 61, .ref 62, .ref 63, .int 0, .ref 64, .int 0, .int 0, .int 0, .ref 65, .ref 66, .int 0, .int (-1), .ref 67, .ref 68, .ref 69, .int 0, .int 0, .int 0, .int 0, .int 0, .int 0, .int 0, .int 0, .ref 70, .int 0, .int 0, .ref 71, .ref 72, .int 0, .null, .null, .null, .null, .null, .null, .int 0, .null, .null, .null, .int 0, .int 0, .int 0, .int 0, .int 0, .int 0, .int 0, .null, .null, .null, .null, .int 0, .int 0, .int 0]))
theorem zh_274_58 (E : Nat → MCQ) : (zm_274 E).2.2 58 = .inr (9, [.int 0, .ref 59, .ref 60, .ref 61, .ref 62, .ref 63, .int 0, .ref 64, .int 0, .int 0, .int 0, .ref 65, .ref 66, .int 0, .int (-1), .ref 67, .ref 68, .ref 69, .int 0, .int 0, .int 0, .int 0, .int 0, .int 0, .int 0, .int 0, .ref 70, .int 0, .int 0, .ref 71, .null, .int 0, .null, .null, .null, .null, .null, .null, .int 0, .null, .null, .null, .int 0, .int 0, .int 0, .int 0, .int 0, .int 0, .int 0, .null, .null, .null, .null, .int 0, .int 0, .int 0]) := rfl
theorem za_275 (E : Nat → MCQ) : pF (zm_274 E) 9 58 30 (.ref 72) = some (zm_275 E) := pF_x (fs := [.int 0, .ref 59, .ref 60, .ref 61, .ref 62, .ref 63, .int 0, .ref 64, .int 0, .int 0, .int 0, .ref 65, .ref 66, .int 0, .int (-1), .ref 67, .ref 68, .ref 69, .int 0, .int 0, .int 0, .int 0, .int 0, .int 0, .int 0, .int 0, .ref 70, .int 0, .int 0, .ref 71, .null, .int 0, .null, .null, .null, .null, .null, .null, .int 0, .null, .null, .null, .int 0, .int 0, .int 0, .int 0, .int 0, .int 0, .int 0, .null, .null, .null, .null, .int 0, .int 0, .int 0]) (zh_274_58 E) rfl rfl
def zm_276 (E : Nat → MCQ) : Mem := addC (zm_275 E) 100 (ARt 2 100)
set_option maxRecDepth 20000 in
theorem zl_275 (E : Nat → MCQ) : (zm_275 E).1 = 73 := rfl
theorem za_276 (E : Nat → MCQ) : newA (zm_275 E) 2 100 = some (73, zm_276 E) := nA_x (n := 100) (by decide) (zl_275 E)
def zm_277 (E : Nat → MCQ) : Mem := setC (zm_276 E) 58 (.inr (9, [.int 0, .ref 59, .ref 60, .ref 61, .ref 62, .ref 63, .int 0, .ref 64, .int 0, .int 0, .int 0, .ref 65, .ref 66, .int 0, .int (-1), .ref 67, .ref 68, .ref 69, .int 0, .int 0, .int 0, .int 0, .int 0, .int 0, .int 0, .int 0, .ref 70, .int 0, .int 0, .ref 71, .ref 72, .int 0, .ref 73, .null, .null, .null, .null, .null, .int 0, .null, .null, .null, .int 0, .int 0, .int 0, .int 0, .int 0, .int 0, .int 0, .null, .null, .null, .null, .int 0, .int 0, .int 0]))
theorem zh_276_58 (E : Nat → MCQ) : (zm_276 E).2.2 58 = .inr (9, [.int 0, .ref 59, .ref 60, .ref 61, .ref 62, .ref 63, .int 0, .ref 64, .int 0, .int 0, .int 0, .ref 65, .ref 66, .int 0, .int (-1), .ref 67, .ref 68, .ref 69, .int 0, .int 0, .int 0, .int 0, .int 0, .int 0, .int 0, .int 0, .ref 70, .int 0, .int 0, .ref 71, .ref 72, .int 0, .null, .null, .null, .null, .null, .null, .int 0, .null, .null, .null, .int 0, .int 0, .int 0, .int 0, .int 0, .int 0, .int 0, .null, .null, .null, .null, .int 0, .int 0, .int 0]) := rfl
theorem za_277 (E : Nat → MCQ) : pF (zm_276 E) 9 58 32 (.ref 73) = some (zm_277 E) := pF_x (fs := [.int 0, .ref 59, .ref 60, .ref 61, .ref 62, .ref 63, .int 0, .ref 64, .int 0, .int 0, .int 0, .ref 65, .ref 66, .int 0, .int (-1), .ref 67, .ref 68, .ref 69, .int 0, .int 0, .int 0, .int 0, .int 0, .int 0, .int 0, .int 0, .ref 70, .int 0, .int 0, .ref 71, .ref 72, .int 0, .null, .null, .null, .null, .null, .null, .int 0, .null, .null, .null, .int 0, .int 0, .int 0, .int 0, .int 0, .int 0, .int 0, .null, .null, .null, .null, .int 0, .int 0, .int 0]) (zh_276_58 E) rfl rfl
def zm_278 (E : Nat → MCQ) : Mem := addC (zm_277 E) 11264 (ARt 1 11264)
set_option maxRecDepth 20000 in
theorem zl_277 (E : Nat → MCQ) : (zm_277 E).1 = 74 := rfl
theorem za_278 (E : Nat → MCQ) : newA (zm_277 E) 1 11264 = some (74, zm_278 E) := nA_x (n := 11264) (by decide) (zl_277 E)
def zm_279 (E : Nat → MCQ) : Mem := setC (zm_278 E) 58 (.inr (9, [.int 0, .ref 59, .ref 60, .ref 61, .ref 62, .ref 63, .int 0, .ref 64, .int 0, .int 0, .int 0, .ref 65, .ref 66, .int 0, .int (-1), .ref 67, .ref 68, .ref 69, .int 0, .int 0, .int 0, .int 0, .int 0, .int 0, .int 0, .int 0, .ref 70, .int 0, .int 0, .ref 71, .ref 72, .int 0, .ref 73, .ref 74, .null, .null, .null, .null, .int 0, .null, .null, .null, .int 0, .int 0, .int 0, .int 0, .int 0, .int 0, .int 0, .null, .null, .null, .null, .int 0, .int 0, .int 0]))
theorem zh_278_58 (E : Nat → MCQ) : (zm_278 E).2.2 58 = .inr (9, [.int 0, .ref 59, .ref 60, .ref 61, .ref 62, .ref 63, .int 0, .ref 64, .int 0, .int 0, .int 0, .ref 65, .ref 66, .int 0, .int (-1), .ref 67, .ref 68, .ref 69, .int 0, .int 0, .int 0, .int 0, .int 0, .int 0, .int 0, .int 0, .ref 70, .int 0, .int 0, .ref 71, .ref 72, .int 0, .ref 73, .null, .null, .null, .null, .null, .int 0, .null, .null, .null, .int 0, .int 0, .int 0, .int 0, .int 0, .int 0, .int 0, .null, .null, .null, .null, .int 0, .int 0, .int 0]) := rfl
theorem za_279 (E : Nat → MCQ) : pF (zm_278 E) 9 58 33 (.ref 74) = some (zm_279 E) := pF_x (fs := [.int 0, .ref 59, .ref 60, .ref 61, .ref 62, .ref 63, .int 0, .ref 64, .int 0, .int 0, .int 0, .ref 65, .ref 66, .int 0, .int (-1), .ref 67, .ref 68, .ref 69, .int 0, .int 0, .int 0, .int 0, .int 0, .int 0, .int 0, .int 0, .ref 70, .int 0, .int 0, .ref 71, .ref 72, .int 0, .ref 73, .null, .null, .null, .null, .null, .int 0, .null, .null, .null, .int 0, .int 0, .int 0, .int 0, .int 0, .int 0, .int 0, .null, .null, .null, .null, .int 0, .int 0, .int 0]) (zh_278_58 E) rfl rfl
def zm_280 (E : Nat → MCQ) : Mem := addC (zm_279 E) 6 (ARt 0 6)
set_option maxRecDepth 20000 in
theorem zl_279 (E : Nat → MCQ) : (zm_279 E).1 = 75 := rfl
theorem za_280 (E : Nat → MCQ) : newA (zm_279 E) 0 6 = some (75, zm_280 E) := nA_x (n := 6) (by decide) (zl_279 E)
def zm_281 (E : Nat → MCQ) : Mem := setC (zm_280 E) 58 (.inr (9, [.int 0, .ref 59, .ref 60, .ref 61, .ref 62, .ref 63, .int 0, .ref 64, .int 0, .int 0, .int 0, .ref 65, .ref 66, .int 0, .int (-1), .ref 67, .ref 68, .ref 69, .int 0, .int 0, .int 0, .int 0, .int 0, .int 0, .int 0, .int 0, .ref 70, .int 0, .int 0, .ref 71, .ref 72, .int 0, .ref 73, .ref 74, .ref 75, .null, .null, .null, .int 0, .null, .null, .null, .int 0, .int 0, .int 0, .int 0, .int 0, .int 0, .int 0, .null, .null, .null, .null, .int 0, .int 0, .int 0]))
theorem zh_280_58 (E : Nat → MCQ) : (zm_280 E).2.2 58 = .inr (9, [.int 0, .ref 59, .ref 60, .ref 61, .ref 62, .ref 63, .int 0, .ref 64, .int 0, .int 0, .int 0, .ref 65, .ref 66, .int 0, .int (-1), .ref 67, .ref 68, .ref 69, .int 0, .int 0, .int 0, .int 0, .int 0, .int 0, .int 0, .int 0, .ref 70, .int 0, .int 0, .ref 71, .ref 72, .int 0, .ref 73, .ref 74, .null, .null, .null, .null, .int 0, .null, .null, .null, .int 0, .int 0, .int 0, .int 0, .int 0, .int 0, .int 0, .null, .null, .null, .null, .int 0, .int 0, .int 0]) := rfl
theorem za_281 (E : Nat → MCQ) : pF (zm_280 E) 9 58 34 (.ref 75) = some (zm_281 E) := pF_x (fs := [.int 0, .ref 59, .ref 60, .ref 61, .ref 62, .ref 63, .int 0, .ref 64, .int 0, .int 0, .int 0, .ref 65, .ref 66, .int 0, .int (-1), .ref 67, .ref 68, .ref 69, .int 0, .int 0, .int 0, .int 0, .int 0, .int 0, .int 0, .int 0, .ref 70, .int 0, .int 0, .ref 71, .ref 72, .int 0, .ref 73, .ref 74, .null, .null, .null, .null, .int 0, .null, .null, .null, .int 0, .int 0, .int 0, .int 0, .int 0, .int 0, .int 0, .null, .null, .null, .null, .int 0, .int 0, .int 0]) (zh_280_58 E) rfl rfl
def zm_282 (E : Nat → MCQ) : Mem := addC (zm_281 E) 6 (ARt 0 6)
set_option maxRecDepth 20000 in
theorem zl_281 (E : Nat → MCQ) : (zm_281 E).1 = 76 := rfl
theorem za_282 (E : Nat → MCQ) : newA (zm_281 E) 0 6 = some (76, zm_282 E) := nA_x (n := 6) (by decide) (zl_281 E)
def zm_283 (E : Nat → MCQ) : Mem := setC (zm_282 E) 58 (.inr (9, [.int 0, .ref 59, .ref 60, .ref 61, .ref 62, .ref 63, .int 0, .ref 64, .int 0, .int 0, .int 0, .ref 65, .ref 66, .int 0, .int (-1), .ref 67, .ref 68, .ref 69, .int 0, .int 0, .int 0, .int 0, .int 0, .int 0, .int 0, .int 0, .ref 70, .int 0, .int 0, .ref 71, .ref 72, .int 0, .ref 73, .ref 74, .ref 75, .ref 76, .null, .null, .int 0, .null, .null, .null, .int 0, .int 0, .int 0, .int 0, .int 0, .int 0, .int 0, .null, .null, .null, .null, .int 0, .int 0, .int 0]))
theorem zh_282_58 (E : Nat → MCQ) : (zm_282 E).2.2 58 = .inr (9, [.int 0, .ref 59, .ref 60, .ref 61, .ref 62, .ref 63, .int 0, .ref 64, .int 0, .int 0, .int 0, .ref 65, .ref 66, .int 0, .int (-1), .ref 67, .ref 68, .ref 69, .int 0, .int 0, .int 0, .int 0, .int 0, .int 0, .int 0, .int 0, .ref 70, .int 0, .int 0, .ref 71, .ref 72, .int 0, .ref 73, .ref 74, .ref 75, .null, .null, .null, .int 0, .null, .null, .null, .int 0, .int 0, .int 0, .int 0, .int 0, .int 0, .int 0, .null, .null, .null, .null, .int 0, .int 0, .int 0]) := rfl
theorem za_283 (E : Nat → MCQ) : pF (zm_282 E) 9 58 35 (.ref 76) = some (zm_283 E) := pF_x (fs := [.int 0, .ref 59, .ref 60, .ref 61, .ref 62, .ref 63, .int 0, .ref 64, .int 0, .int 0, .int 0, .ref 65, .ref 66, .int 0, .int (-1), .ref 67, .ref 68, .ref 69, .int 0, .int 0, .int 0, .int 0, .int 0, .int 0, .int 0, .int 0, .ref 70, .int 0, .int 0, .ref 71, .ref 72, .int 0, .ref 73, .ref 74, .ref 75, .null, .null, .null, .int 0, .null, .null, .null, .int 0, .int 0, .int 0, .int 0, .int 0, .int 0, .int 0, .null, .null, .null, .null, .int 0, .int 0, .int 0]) (zh_282_58 E) rfl rfl
def zm_284 (E : Nat → MCQ) : Mem := addC (zm_283 E) 6 (ARt 0 6)
set_option maxRecDepth 20000 in
theorem zl_283 (E : Nat → MCQ) : (zm_283 E).1 = 77 := rfl
theorem za_284 (E : Nat → MCQ) : newA (zm_283 E) 0 6 = some (77, zm_284 E) := nA_x (n := 6) (by decide) (zl_283 E)
def zm_285 (E : Nat → MCQ) : Mem := setC (zm_284 E) 58 (.inr (9, [.int 0, .ref 59, .ref 60, .ref 61, .ref 62, .ref 63, .int 0, .ref 64, .int 0, .int 0, .int 0, .ref 65, .ref 66, .int 0, .int (-1), .ref 67, .ref 68, .ref 69, .int 0, .int 0, .int 0, .int 0, .int 0, .int 0, .int 0, .int 0, .ref 70, .int 0, .int 0, .ref 71, .ref 72, .int 0, .ref 73, .ref 74, .ref 75, .ref 76, .ref 77, .null, .int 0, .null, .null, .null, .int 0, .int 0, .int 0, .int 0, .int 0, .int 0, .int 0, .null, .null, .null, .null, .int 0, .int 0, .int 0]))
theorem zh_284_58 (E : Nat → MCQ) : (zm_284 E).2.2 58 = .inr (9, [.int 0, .ref 59, .ref 60, .ref 61, .ref 62, .ref 63, .int 0, .ref 64, .int 0, .int 0, .int 0, .ref 65, .ref 66, .int 0, .int (-1), .ref 67, .ref 68, .ref 69, .int 0, .int 0, .int 0, .int 0, .int 0, .int 0, .int 0, .int 0, .ref 70, .int 0, .int 0, .ref 71, .ref 72, .int 0, .ref 73, .ref 74, .ref 75, .ref 76, .null, .null, .int 0, .null, .null, .null, .int 0, .int 0, .int 0, .int 0, .int 0, .int 0, .int 0, .null, .null, .null, .null, .int 0, .int 0, .int 0]) := rfl
theorem za_285 (E : Nat → MCQ) : pF (zm_284 E) 9 58 36 (.ref 77) = some (zm_285 E) := pF_x (fs := [.int 0, .ref 59, .ref 60, .ref 61, .ref 62, .ref 63, .int 0, .ref 64, .int 0, .int 0, .int 0, .ref 65, .ref 66, .int 0, .int (-1), .ref 67, .ref 68, .ref 69, .int 0, .int 0, .int 0, .int 0, .int 0, .int 0, .int 0, .int 0, .ref 70, .int 0, .int 0, .ref 71, .ref 72, .int 0, .ref 73, .ref 74, .ref 75, .ref 76, .null, .null, .int 0, .null, .null, .null, .int 0, .int 0, .int 0, .int 0, .int 0, .int 0, .int 0, .null, .null, .null, .null, .int 0, .int 0, .int 0]) (zh_284_58 E) rfl rfl
def zm_286 (E : Nat → MCQ) : Mem := addC (zm_285 E) 6 (ARt 0 6)
set_option maxRecDepth 20000 in
theorem zl_285 (E : Nat → MCQ) : (zm_285 E).1 = 78 := rfl
theorem za_286 (E : Nat → MCQ) : newA (zm_285 E) 0 6 = some (78, zm_286 E) := nA_x (n := 6) (by decide) (zl_285 E)
def zm_287 (E : Nat → MCQ) : Mem := setC (zm_286 E) 58 (.inr (9, [.int 0, .ref 59, .ref 60, .ref 61, .ref 62, .ref 63, .int 0, .ref 64, .int 0, .int 0, .int 0, .ref 65, .ref 66, .int 0, .int (-1), .ref 67, .ref 68, .ref 69, .int 0, .int 0, .int 0, .int 0, .int 0, .int 0, .int 0, .int 0, .ref 70, .int 0, .int 0, .ref 71, .ref 72, .int 0, .ref 73, .ref 74, .ref 75, .ref 76, .ref 77, .ref 78, .int 0, .null, .null, .null, .int 0, .int 0, .int 0, .int 0, .int 0, .int 0, .int 0, .null, .null, .null, .null, .int 0, .int 0, .int 0]))
theorem zh_286_58 (E : Nat → MCQ) : (zm_286 E).2.2 58 = .inr (9, [.int 0, .ref 59, .ref 60, .ref 61, .ref 62, .ref 63, .int 0, .ref 64, .int 0, .int 0, .int 0, .ref 65, .ref 66, .int 0, .int (-1), .ref 67, .ref 68, .ref 69, .int 0, .int 0, .int 0, .int 0, .int 0, .int 0, .int 0, .int 0, .ref 70, .int 0, .int 0, .ref 71, .ref 72, .int 0, .ref 73, .ref 74, .ref 75, .ref 76, .ref 77, .null, .int 0, .null, .null, .null, .int 0, .int 0, .int 0, .int 0, .int 0, .int 0, .int 0, .null, .null, .null, .null, .int 0, .int 0, .int 0]) := rfl
theorem za_287 (E : Nat → MCQ) : pF (zm_286 E) 9 58 37 (.ref 78) = some (zm_287 E) := pF_x (fs := [.int 0, .ref 59, .ref 60, .ref 61, .ref 62, .ref 63, .int 0, .ref 64, .int 0, .int 0, .int 0, .ref 65, .ref 66, .int 0, .int (-1), .ref 67, .ref 68, .ref 69, .int 0, .int 0, .int 0, .int 0, .int 0, .int 0, .int 0, .int 0, .ref 70, .int 0, .int 0, .ref 71, .ref 72, .int 0, .ref 73, .ref 74, .ref 75, .ref 76, .ref 77, .null, .int 0, .null, .null, .null, .int 0, .int 0, .int 0, .int 0, .int 0, .int 0, .int 0, .null, .null, .null, .null, .int 0, .int 0, .int 0]) (zh_286_58 E) rfl rfl
def zm_288 (E : Nat → MCQ) : Mem := addC (zm_287 E) 6 (ARt 0 6)
set_option maxRecDepth 20000 in
theorem zl_287 (E : Nat → MCQ) : (zm_287 E).1 = 79 := rfl
theorem za_288 (E : Nat → MCQ) : newA (zm_287 E) 0 6 = some (79, zm_288 E) := nA_x (n := 6) (by decide) (zl_287 E)
def zm_289 (E : Nat → MCQ) : Mem := setC (zm_288 E) 58 (.inr (9, [.int 0, .ref 59, .ref 60, .ref 61, .ref 62, .ref 63, .int 0, .ref 64, .int 0, .int 0, .int 0, .ref 65, .ref 66, .int 0, .int (-1), .ref 67, .ref 68, .ref 69, .int 0, .int 0, .int 0, .int 0, .int 0, .int 0, .int 0, .int 0, .ref 70, .int 0, .int 0, .ref 71, .ref 72, .int 0, .ref 73, .ref 74, .ref 75, .ref 76, .ref 77, .ref 78, .int 0, .ref 79, .null, .null, .int 0, .int 0, .int 0, .int 0, .int 0, .int 0, .int 0, .null, .null, .null, .null, .int 0, .int 0, .int 0]))
theorem zh_288_58 (E : Nat → MCQ) : (zm_288 E).2.2 58 = .inr (9, [.int 0, .ref 59, .ref 60, .ref 61, .ref 62, .ref 63, .int 0, .ref 64, .int 0, .int 0, .int 0, .ref 65, .ref 66, .int 0, .int (-1), .ref 67, .ref 68, .ref 69, .int 0, .int 0, .int 0, .int 0, .int 0, .int 0, .int 0, .int 0, .ref 70, .int 0, .int 0, .ref 71, .ref 72, .int 0, .ref 73, .ref 74, .ref 75, .ref 76, .ref 77, .ref 78, .int 0, .null, .null, .null, .int 0, .int 0, .int 0, .int 0, .int 0, .int 0, .int 0, .null, .null, .null, .null, .int 0, .int 0, .int 0]) := rfl
theorem za_289 (E : Nat → MCQ) : pF (zm_288 E) 9 58 39 (.ref 79) = some (zm_289 E) := pF_x (fs := [.int 0, .ref 59, .ref 60, .ref 61, .ref 62, .ref 63, .int 0, .ref 64, .int 0, .int 0, .int 0, .ref 65, .ref 66, .int 0, .int (-1), .ref 67, .ref 68, .ref 69, .int 0, .int 0, .int 0, .int 0, .int 0, .int 0, .int 0, .int 0, .ref 70, .int 0, .int 0, .ref 71, .ref 72, .int 0, .ref 73, .ref 74, .ref 75, .ref 76, .ref 77, .ref 78, .int 0, .null, .null, .null, .int 0, .int 0, .int 0, .int 0, .int 0, .int 0, .int 0, .null, .null, .null, .null, .int 0, .int 0, .int 0]) (zh_288_58 E) rfl rfl
def zm_290 (E : Nat → MCQ) : Mem := addC (zm_289 E) 7 (ARt 0 7)
set_option maxRecDepth 20000 in
theorem zl_289 (E : Nat → MCQ) : (zm_289 E).1 = 80 := rfl
theorem za_290 (E : Nat → MCQ) : newA (zm_289 E) 0 7 = some (80, zm_290 E) := nA_x (n := 7) (by decide) (zl_289 E)
def zm_291 (E : Nat → MCQ) : Mem := setC (zm_290 E) 58 (.inr (9, [.int 0, .ref 59, .ref 60, .ref 61, .ref 62, .ref 63, .int 0, .ref 64, .int 0, .int 0, .int 0, .ref 65, .ref 66, .int 0, .int (-1), .ref 67, .ref 68, .ref 69, .int 0, .int 0, .int 0, .int 0, .int 0, .int 0, .int 0, .int 0, .ref 70, .int 0, .int 0, .ref 71, .ref 72, .int 0, .ref 73, .ref 74, .ref 75, .ref 76, .ref 77, .ref 78, .int 0, .ref 79, .ref 80, .null, .int 0, .int 0, .int 0, .int 0, .int 0, .int 0, .int 0, .null, .null, .null, .null, .int 0, .int 0, .int 0]))
theorem zh_290_58 (E : Nat → MCQ) : (zm_290 E).2.2 58 = .inr (9, [.int 0, .ref 59, .ref 60, .ref 61, .ref 62, .ref 63, .int 0, .ref 64, .int 0, .int 0, .int 0, .ref 65, .ref 66, .int 0, .int (-1), .ref 67, .ref 68, .ref 69, .int 0, .int 0, .int 0, .int 0, .int 0, .int 0, .int 0, .int 0, .ref 70, .int 0, .int 0, .ref 71, .ref 72, .int 0, .ref 73, .ref 74, .ref 75, .ref 76, .ref 77, .ref 78, .int 0, .ref 79, .null, .null, .int 0, .int 0, .int 0, .int 0, .int 0, .int 0, .int 0, .null, .null, .null, .null, .int 0, .int 0, .int 0]) := rfl
theorem za_291 (E : Nat → MCQ) : pF (zm_290 E) 9 58 40 (.ref 80) = some (zm_291 E) := pF_x (fs := [.int 0, .ref 59, .ref 60, .ref 61, .ref 62, .ref 63, .int 0, .ref 64, .int 0, .int 0, .int 0, .ref 65, .ref 66, .int 0, .int (-1), .ref 67, .ref 68, .ref 69, .int 0, .int 0, .int 0, .int 0, .int 0, .int 0, .int 0, .int 0, .ref 70, .int 0, .int 0, .ref 71, .ref 72, .int 0, .ref 73, .ref 74, .ref 75, .ref 76, .ref 77, .ref 78, .int 0, .ref 79, .null, .null, .int 0, .int 0, .int 0, .int 0, .int 0, .int 0, .int 0, .null, .null, .null, .null, .int 0, .int 0, .int 0]) (zh_290_58 E) rfl rfl
def zm_292 (E : Nat → MCQ) : Mem := addC (zm_291 E) 7 (ARt 0 7)
set_option maxRecDepth 20000 in
theorem zl_291 (E : Nat → MCQ) : (zm_291 E).1 = 81 := rfl
theorem za_292 (E : Nat → MCQ) : newA (zm_291 E) 0 7 = some (81, zm_292 E) := nA_x (n := 7) (by decide) (zl_291 E)
def zm_293 (E : Nat → MCQ) : Mem := setC (zm_292 E) 58 (.inr (9, [.int 0, .ref 59, .ref 60, .ref 61, .ref 62, .ref 63, .int 0, .ref 64, .int 0, .int 0, .int 0, .ref 65, .ref 66, .int 0, .int (-1), .ref 67, .ref 68, .ref 69, .int 0, .int 0, .int 0, .int 0, .int 0, .int 0, .int 0, .int 0, .ref 70, .int 0, .int 0, .ref 71, .ref 72, .int 0, .ref 73, .ref 74, .ref 75, .ref 76, .ref 77, .ref 78, .int 0, .ref 79, .ref 80, .ref 81, .int 0, .int 0, .int 0, .int 0, .int 0, .int 0, .int 0, .null, .null, .null, .null, .int 0, .int 0, .int 0]))
theorem zh_292_58 (E : Nat → MCQ) : (zm_292 E).2.2 58 = .inr (9, [.int 0, .ref 59, .ref 60, .ref 61, .ref 62, .ref 63, .int 0, .ref 64, .int 0, .int 0, .int 0, .ref 65, .ref 66, .int 0, .int (-1), .ref 67, .ref 68, .ref 69, .int 0, .int 0, .int 0, .int 0, .int 0, .int 0, .int 0, .int 0, .ref 70, .int 0, .int 0, .ref 71, .ref 72, .int 0, .ref 73, .ref 74, .ref 75, .ref 76, .ref 77, .ref 78, .int 0, .ref 79, .ref 80, .null, .int 0, .int 0, .int 0, .int 0, .int 0, .int 0, .int 0, .null, .null, .null, .null, .int 0, .int 0, .int 0]) := rfl
theorem za_293 (E : Nat → MCQ) : pF (zm_292 E) 9 58 41 (.ref 81) = some (zm_293 E) := pF_x (fs := [.int 0, .ref 59, .ref 60, .ref 61, .ref 62, .ref 63, .int 0, .ref 64, .int 0, .int 0, .int 0, .ref 65, .ref 66, .int 0, .int (-1), .ref 67, .ref 68, .ref 69, .int 0, .int 0, .int 0, .int 0, .int 0, .int 0, .int 0, .int 0, .ref 70, .int 0, .int 0, .ref 71, .ref 72, .int 0, .ref 73, .ref 74, .ref 75, .ref 76, .ref 77, .ref 78, .int 0, .ref 79, .ref 80, .null, .int 0, .int 0, .int 0, .int 0, .int 0, .int 0, .int 0, .null, .null, .null, .null, .int 0, .int 0, .int 0]) (zh_292_58 E) rfl rfl
def zm_294 (E : Nat → MCQ) : Mem := setC (zm_293 E) 58 (.inr (9, [.int 0, .ref 59, .ref 60, .ref 61, .ref 62, .ref 63, .int 0, .ref 64, .int 0, .int 0, .int 0, .ref 65, .ref 66, .int 0, .int (-1), .ref 67, .ref 68, .ref 69, .int 0, .int 0, .int 0, .int 0, .int 0, .int 0, .int 0, .int 0, .ref 70, .int 0, .int 0, .ref 71, .ref 72, .int 0, .ref 73, .ref 74, .ref 75, .ref 76, .ref 77, .ref 78, .int 0, .ref 79, .ref 80, .ref 81, .int 0, .int (-1), .int 0, .int 0, .int 0, .int 0, .int 0, .null, .null, .null, .null, .int 0, .int 0, .int 0]))
theorem zh_293_58 (E : Nat → MCQ) : (zm_293 E).2.2 58 = .inr (9, [.int 0, .ref 59, .ref 60, .ref 61, .ref 62, .ref 63, .int 0, .ref 64, .int 0, .int 0, .int 0, .ref 65, .ref 66, .int 0, .int (-1), .ref 67, .ref 68, .ref 69, .int 0, .int 0, .int 0, .int 0, .int 0, .int 0, .int 0, .int 0, .ref 70, .int 0, .int 0, .ref 71, .ref 72, .int 0, .ref 73, .ref 74, .ref 75, .ref 76, .ref 77, .ref 78, .int 0, .ref 79, .ref 80, .ref 81, .int 0, .int 0, .int 0, .int 0, .int 0, .int 0, .int 0, .null, .null, .null, .null, .int 0, .int 0, .int 0]) := rfl
theorem za_294 (E : Nat → MCQ) : pF (zm_293 E) 9 58 43 (.int (-1)) = some (zm_294 E) := pF_x (fs := [.int 0, .ref 59, .ref 60, .ref 61, .ref 62, .ref 63, .int 0, .ref 64, .int 0, .int 0, .int 0, .ref 65, .ref 66, .int 0, .int (-1), .ref 67, .ref 68, .ref 69, .int 0, .int 0, .int 0, .int 0, .int 0, .int 0, .int 0, .int 0, .ref 70, .int 0, .int 0, .ref 71, .ref 72, .int 0, .ref 73, .ref 74, .ref 75, .ref 76, .ref 77, .ref 78, .int 0, .ref 79, .ref 80, .ref 81, .int 0, .int 0, .int 0, .int 0, .int 0, .int 0, .int 0, .null, .null, .null, .null, .int 0, .int 0, .int 0]) (zh_293_58 E) rfl rfl
def zm_295 (E : Nat → MCQ) : Mem := addC (zm_294 E) 2 (ARt 3 2)
set_option maxRecDepth 20000 in
theorem zl_294 (E : Nat → MCQ) : (zm_294 E).1 = 82 := rfl
theorem za_295 (E : Nat → MCQ) : newA (zm_294 E) 3 2 = some (82, zm_295 E) := nA_x (n := 2) (by decide) (zl_294 E)
def zm_296 (E : Nat → MCQ) : Mem := setC (zm_295 E) 58 (.inr (9, [.int 0, .ref 59, .ref 60, .ref 61, .ref 62, .ref 63, .int 0, .ref 64, .int 0, .int 0, .int 0, .ref 65, .ref 66, .int 0, .int (-1), .ref 67, .ref 68, .ref 69, .int 0, .int 0, .int 0, .int 0, .int 0, .int 0, .int 0, .int 0, .ref 70, .int 0, .int 0, .ref 71, .ref 72, .int 0, .ref 73, .ref 74, .ref 75, .ref 76, .ref 77, .ref 78, .int 0, .ref 79, .ref 80, .ref 81, .int 0, .int (-1), .int 0, .int 0, .int 0, .int 0, .int 0, .ref 82, .null, .null, .null, .int 0, .int 0, .int 0]))
theorem zh_295_58 (E : Nat → MCQ) : (zm_295 E).2.2 58 = .inr (9, [.int 0, .ref 59, .ref 60, .ref 61, .ref 62, .ref 63, .int 0, .ref 64, .int 0, .int 0, .int 0, .ref 65, .ref 66, .int 0, .int (-1), .ref 67, .ref 68, .ref 69, .int 0, .int 0, .int 0, .int 0, .int 0, .int 0, .int 0, .int 0, .ref 70, .int 0, .int 0, .ref 71, .ref 72, .int 0, .ref 73, .ref 74, .ref 75, .ref 76, .ref 77, .ref 78, .int 0, .ref 79, .ref 80, .ref 81, .int 0, .int (-1), .int 0, .int 0, .int 0, .int 0, .int 0, .null, .null, .null, .null, .int 0, .int 0, .int 0]) := rfl
theorem za_296 (E : Nat → MCQ) : pF (zm_295 E) 9 58 49 (.ref 82) = some (zm_296 E) := pF_x (fs := [.int 0, .ref 59, .ref 60, .ref 61, .ref 62, .ref 63, .int 0, .ref 64, .int 0, .int 0, .int 0, .ref 65, .ref 66, .int 0, .int (-1), .ref 67, .ref 68, .ref 69, .int 0, .int 0, .int 0, .int 0, .int 0, .int 0, .int 0, .int 0, .ref 70, .int 0, .int 0, .ref 71, .ref 72, .int 0, .ref 73, .ref 74, .ref 75, .ref 76, .ref 77, .ref 78, .int 0, .ref 79, .ref 80, .ref 81, .int 0, .int (-1), .int 0, .int 0, .int 0, .int 0, .int 0, .null, .null, .null, .null, .int 0, .int 0, .int 0]) (zh_295_58 E) rfl rfl
def zm_297 (E : Nat → MCQ) : Mem := addC (zm_296 E) 6 (ARt 0 6)
set_option maxRecDepth 20000 in
theorem zl_296 (E : Nat → MCQ) : (zm_296 E).1 = 83 := rfl
theorem za_297 (E : Nat → MCQ) : newA (zm_296 E) 0 6 = some (83, zm_297 E) := nA_x (n := 6) (by decide) (zl_296 E)
def zm_298 (E : Nat → MCQ) : Mem := setC (zm_297 E) 58 (.inr (9, [.int 0, .ref 59, .ref 60, .ref 61, .ref 62, .ref 63, .int 0, .ref 64, .int 0, .int 0, .int 0, .ref 65, .ref 66, .int 0, .int (-1), .ref 67, .ref 68, .ref 69, .int 0, .int 0, .int 0, .int 0, .int 0, .int 0, .int 0, .int 0, .ref 70, .int 0, .int 0, .ref 71, .ref 72, .int 0, .ref 73, .ref 74, .ref 75, .ref 76, .ref 77, .ref 78, .int 0, .ref 79, .ref 80, .ref 81, .int 0, .int (-1), .int 0, .int 0, .int 0, .int 0, .int 0, .ref 82, .ref 83, .null, .null, .int 0, .int 0, .int 0]))
theorem zh_297_58 (E : Nat → MCQ) : (zm_297 E).2.2 58 = .inr (9, [.int 0, .ref 59, .ref 60, .ref 61, .ref 62, .ref 63, .int 0, .ref 64, .int 0, .int 0, .int 0, .ref 65, .ref 66, .int 0, .int (-1), .ref 67, .ref 68, .ref 69, .int 0, .int 0, .int 0, .int 0, .int 0, .int 0, .int 0, .int 0, .ref 70, .int 0, .int 0, .ref 71, .ref 72, .int 0, .ref 73, .ref 74, .ref 75, .ref 76, .ref 77, .ref 78, .int 0, .ref 79, .ref 80, .ref 81, .int 0, .int (-1), .int 0, .int 0, .int 0, .int 0, .int 0, .ref 82, .null, .null, .null, .int 0, .int 0, .int 0]) := rfl
theorem za_298 (E : Nat → MCQ) : pF (zm_297 E) 9 58 50 (.ref 83) = some (zm_298 E) := pF_x (fs := [.int 0, .ref 59, .ref 60, .ref 61, .ref 62, .ref 63, .int 0, .ref 64, .int 0, .int 0, .int 0, .ref 65, .ref 66, .int 0, .int (-1), .ref 67, .ref 68, .ref 69, .int 0, .int 0, .int 0, .int 0, .int 0, .int 0, .int 0, .int 0, .ref 70, .int 0, .int 0, .ref 71, .ref 72, .int 0, .ref 73, .ref 74, .ref 75, .ref 76, .ref 77, .ref 78, .int 0, .ref 79, .ref 80, .ref 81, .int 0, .int (-1), .int 0, .int 0, .int 0, .int 0, .int 0, .ref 82, .null, .null, .null, .int 0, .int 0, .int 0]) (zh_297_58 E) rfl rfl
def zm_299 (E : Nat → MCQ) : Mem := addC (zm_298 E) 10 (ARt 0 10)
set_option maxRecDepth 20000 in
theorem zl_298 (E : Nat → MCQ) : (zm_298 E).1 = 84 := rfl
theorem za_299 (E : Nat → MCQ) : newA (zm_298 E) 0 10 = some (84, zm_299 E) := nA_x (n := 10) (by decide) (zl_298 E)
def zm_300 (E : Nat → MCQ) : Mem := setC (zm_299 E) 58 (.inr (9, [.int 0, .ref 59, .ref 60, .ref 61, .ref 62, .ref 63, .int 0, .ref 64, .int 0, .int 0, .int 0, .ref 65, .ref 66, .int 0, .int (-1), .ref 67, .ref 68, .ref 69, .int 0, .int 0, .int 0, .int 0, .int 0, .int 0, .int 0, .int 0, .ref 70, .int 0, .int 0, .ref 71, .ref 72, .int 0, .ref 73, .ref 74, .ref 75, .ref 76, .ref 77, .ref 78, .int 0, .ref 79, .ref 80, .ref 81, .int 0, .int (-1), .int 0, .int 0, .int 0, .int 0, .int 0, .ref 82, .ref 83, .ref 84, .null, .int 0, .int 0, .int 0]))
theorem zh_299_58 (E : Nat → MCQ) : (zm_299 E).2.2 58 = .inr (9, [.int 0, .ref 59, .ref 60, .ref 61, .ref 62, .ref 63, .int 0, .ref 64, .int 0, .int 0, .int 0, .ref 65, .ref 66, .int 0, .int (-1), .ref 67, .ref 68, .ref 69, .int 0, .int 0, .int 0, .int 0, .int 0, .int 0, .int 0, .int 0, .ref 70, .int 0, .int 0, .ref 71, .ref 72, .int 0, .ref 73, .ref 74, .ref 75, .ref 76, .ref 77, .ref 78, .int 0, .ref 79, .ref 80, .ref 81, .int 0, .int (-1), .int 0, .int 0, .int 0, .int 0, .int 0, .ref 82, .ref 83, .null, .null, .int 0, .int 0, .int 0]) := rfl
theorem za_300 (E : Nat → MCQ) : pF (zm_299 E) 9 58 51 (.ref 84) = some (zm_300 E) := pF_x (fs := [.int 0, .ref 59, .ref 60, .ref 61, .ref 62, .ref 63, .int 0, .ref 64, .int 0, .int 0, .int 0, .ref 65, .ref 66, .int 0, .int (-1), .ref 67, .ref 68, .ref 69, .int 0, .int 0, .int 0, .int 0, .int 0, .int 0, .int 0, .int 0, .ref 70, .int 0, .int 0, .ref 71, .ref 72, .int 0, .ref 73, .ref 74, .ref 75, .ref 76, .ref 77, .ref 78, .int 0, .ref 79, .ref 80, .ref 81, .int 0, .int (-1), .int 0, .int 0, .int 0, .int 0, .int 0, .ref 82, .ref 83, .null, .null, .int 0, .int 0, .int 0]) (zh_299_58 E) rfl rfl
def zm_301 (E : Nat → MCQ) : Mem := addC (zm_300 E) 10 (ARt 0 10)
set_option maxRecDepth 20000 in
theorem zl_300 (E : Nat → MCQ) : (zm_300 E).1 = 85 := rfl
theorem za_301 (E : Nat → MCQ) : newA (zm_300 E) 0 10 = some (85, zm_301 E) := nA_x (n := 10) (by decide) (zl_300 E)
def zm_302 (E : Nat → MCQ) : Mem := setC (zm_301 E) 58 (.inr (9, [.int 0, .ref 59, .ref 60, .ref 61, .ref 62, .ref 63, .int 0, .ref 64, .int 0, .int 0, .int 0, .ref 65, .ref 66, .int 0, .int (-1), .ref 67, .ref 68, .ref 69, .int 0, .int 0, .int 0, .int 0, .int 0, .int 0, .int 0, .int 0, .ref 70, .int 0, .int 0, .ref 71, .ref 72, .int 0, .ref 73, .ref 74, .ref 75, .ref 76, .ref 77, .ref 78, .int 0, .ref 79, .ref 80, .ref 81, .int 0, .int (-1), .int 0, .int 0, .int 0, .int 0, .int 0, .ref 82, .ref 83, .ref 84, .ref 85, .int 0, .int 0, .int 0]))
theorem zh_301_58 (E : Nat → MCQ) : (zm_301 E).2.2 58 = .inr (9, [.int 0, .ref 59, .ref 60, .ref 61, .ref 62, .ref 63, .int 0, .ref 64, .int 0, .int 0, .int 0, .ref 65, .ref 66, .int 0, .int (-1), .ref 67, .ref 68, .ref 69, .int 0, .int 0, .int 0, .int 0, .int 0, .int 0, .int 0, .int 0, .ref 70, .int 0, .int 0, .ref 71, .ref 72, .int 0, .ref 73, .ref 74, .ref 75, .ref 76, .ref 77, .ref 78, .int 0, .ref 79, .ref 80, .ref 81, .int 0, .int (-1), .int 0, .int 0, .int 0, .int 0, .int 0, .ref 82, .ref 83, .ref 84, .null, .int 0, .int 0, .int 0]) := rfl
theorem za_302 (E : Nat → MCQ) : pF (zm_301 E) 9 58 52 (.ref 85) = some (zm_302 E) := pF_x (fs := [.int 0, .ref 59, .ref 60, .ref 61, .ref 62, .ref 63, .int 0, .ref 64, .int 0, .int 0, .int 0, .ref 65, .ref 66, .int 0, .int (-1), .ref 67, .ref 68, .ref 69, .int 0, .int 0, .int 0, .int 0, .int 0, .int 0, .int 0, .int 0, .ref 70, .int 0, .int 0, .ref 71, .ref 72, .int 0, .ref 73, .ref 74, .ref 75, .ref 76, .ref 77, .ref 78, .int 0, .ref 79, .ref 80, .ref 81, .int 0, .int (-1), .int 0, .int 0, .int 0, .int 0, .int 0, .ref 82, .ref 83, .ref 84, .null, .int 0, .int 0, .int 0]) (zh_301_58 E) rfl rfl
def zm_303 (E : Nat → MCQ) : Mem := setC (zm_302 E) 58 (.inr (9, [.int 0, .ref 59, .ref 60, .ref 61, .ref 62, .ref 63, .int 0, .ref 64, .int 0, .int 0, .int 0, .ref 65, .ref 66, .int 0, .int (-1), .ref 67, .ref 68, .ref 69, .int 0, .int 0, .int 0, .int 0, .int 0, .int 0, .int 0, .int 0, .ref 70, .int 0, .int 0, .ref 71, .ref 72, .int 0, .ref 73, .ref 74, .ref 75, .ref 76, .ref 77, .ref 78, .int 0, .ref 79, .ref 80, .ref 81, .int 0, .int (-1), .int 0, .int 0, .int 0, .int 0, .int 0, .ref 82, .ref 83, .ref 84, .ref 85, .int (-1), .int 0, .int 0]))
theorem zh_302_58 (E : Nat → MCQ) : (zm_302 E).2.2 58 = .inr (9, [.int 0, .ref 59, .ref 60, .ref 61, .ref 62, .ref 63, .int 0, .ref 64, .int 0, .int 0, .int 0, .ref 65, .ref 66, .int 0, .int (-1), .ref 67, .ref 68, .ref 69, .int 0, .int 0, .int 0, .int 0, .int 0, .int 0, .int 0, .int 0, .ref 70, .int 0, .int 0, .ref 71, .ref 72, .int 0, .ref 73, .ref 74, .ref 75, .ref 76, .ref 77, .ref 78, .int 0, .ref 79, .ref 80, .ref 81, .int 0, .int (-1), .int 0, .int 0, .int 0, .int 0, .int 0, .ref 82, .ref 83, .ref 84, .ref 85, .int 0, .int 0, .int 0]) := rfl
theorem za_303 (E : Nat → MCQ) : pF (zm_302 E) 9 58 53 (.int (-1)) = some (zm_303 E) := pF_x (fs := [.int 0, .ref 59, .ref 60, .ref 61, .ref 62, .ref 63, .int 0, .ref 64, .int 0, .int 0, .int 0, .ref 65, .ref 66, .int 0, .int (-1), .ref 67, .ref 68, .ref 69, .int 0, .int 0, .int 0, .int 0, .int 0, .int 0, .int 0, .int 0, .ref 70, .int 0, .int 0, .ref 71, .ref 72, .int 0, .ref 73, .ref 74, .ref 75, .ref 76, .ref 77, .ref 78, .int 0, .ref 79, .ref 80, .ref 81, .int 0, .int (-1), .int 0, .int 0, .int 0, .int 0, .int 0, .ref 82, .ref 83, .ref 84, .ref 85, .int 0, .int 0, .int 0]) (zh_302_58 E) rfl rfl
theorem zh_303_58 (E : Nat → MCQ) : (zm_303 E).2.2 58 = .inr (9, [.int 0, .ref 59, .ref 60, .ref 61, .ref 62, .ref 63, .int 0, .ref 64, .int 0, .int 0, .int 0, .ref 65, .ref 66, .int 0, .int (-1), .ref 67, .ref 68, .ref 69, .int 0, .int 0, .int 0, .int 0, .int 0, .int 0, .int 0, .int 0, .ref 70, .int 0, .int 0, .ref 71, .ref 72, .int 0, .ref 73, .ref 74, .ref 75, .ref 76, .ref 77, .ref 78, .int 0, .ref 79, .ref 80, .ref 81, .int 0, .int (-1), .int 0, .int 0, .int 0, .int 0, .int 0, .ref 82, .ref 83, .ref 84, .ref 85, .int (-1), .int 0, .int 0]) := rfl
theorem zg_303_2 (E : Nat → MCQ) : gR (zm_303 E) 9 58 2 = some 60 := gR_x (fs := [.int 0, .ref 59, .ref 60, .ref 61, .ref 62, .ref 63, .int 0, .ref 64, .int 0, .int 0, .int 0, .ref 65, .ref 66, .int 0, .int (-1), .ref 67, .ref 68, .ref 69, .int 0, .int 0, .int 0, .int 0, .int 0, .int 0, .int 0, .int 0, .ref 70, .int 0, .int 0, .ref 71, .ref 72, .int 0, .ref 73, .ref 74, .ref 75, .ref 76, .ref 77, .ref 78, .int 0, .ref 79, .ref 80, .ref 81, .int 0, .int (-1), .int 0, .int 0, .int 0, .int 0, .int 0, .ref 82, .ref 83, .ref 84, .ref 85, .int (-1), .int 0, .int 0]) (zh_303_58 E) rfl
def zw_125 : Nat → Int32 := upd (fun _ => 0) 97 2
def zm_304 (E : Nat → MCQ) : Mem := setC (zm_303 E) 60 (.inl (0, 5711, .inl zw_125))
set_option maxRecDepth 20000 in
theorem zh_303_60 (E : Nat → MCQ) : (zm_303 E).2.2 60 = ARt 0 5711 := rfl
theorem za_304 (E : Nat → MCQ) : sI (zm_303 E) 60 97 2 = some (zm_304 E) := sI_x (i := 97) (n := 5711) (f := (fun _ => 0)) (zh_303_60 E) (by decide) (by decide)
theorem zh_304_58 (E : Nat → MCQ) : (zm_304 E).2.2 58 = .inr (9, [.int 0, .ref 59, .ref 60, .ref 61, .ref 62, .ref 63, .int 0, .ref 64, .int 0, .int 0, .int 0, .ref 65, .ref 66, .int 0, .int (-1), .ref 67, .ref 68, .ref 69, .int 0, .int 0, .int 0, .int 0, .int 0, .int 0, .int 0, .int 0, .ref 70, .int 0, .int 0, .ref 71, .ref 72, .int 0, .ref 73, .ref 74, .ref 75, .ref 76, .ref 77, .ref 78, .int 0, .ref 79, .ref 80, .ref 81, .int 0, .int (-1), .int 0, .int 0, .int 0, .int 0, .int 0, .ref 82, .ref 83, .ref 84, .ref 85, .int (-1), .int 0, .int 0]) := rfl
theorem zg_304_2 (E : Nat → MCQ) : gR (zm_304 E) 9 58 2 = some 60 := gR_x (fs := [.int 0, .ref 59, .ref 60, .ref 61, .ref 62, .ref 63, .int 0, .ref 64, .int 0, .int 0, .int 0, .ref 65, .ref 66, .int 0, .int (-1), .ref 67, .ref 68, .ref 69, .int 0, .int 0, .int 0, .int 0, .int 0, .int 0, .int 0, .int 0, .ref 70, .int 0, .int 0, .ref 71, .ref 72, .int 0, .ref 73, .ref 74, .ref 75, .ref 76, .ref 77, .ref 78, .int 0, .ref 79, .ref 80, .ref 81, .int 0, .int (-1), .int 0, .int 0, .int 0, .int 0, .int 0, .ref 82, .ref 83, .ref 84, .ref 85, .int (-1), .int 0, .int 0]) (zh_304_58 E) rfl
def zw_126 : Nat → Int32 := upd zw_125 103 (-1)
def zm_305 (E : Nat → MCQ) : Mem := setC (zm_304 E) 60 (.inl (0, 5711, .inl zw_126))
theorem zh_304_60 (E : Nat → MCQ) : (zm_304 E).2.2 60 = .inl (0, 5711, .inl zw_125) := rfl
theorem za_305 (E : Nat → MCQ) : sI (zm_304 E) 60 103 (-1) = some (zm_305 E) := sI_x (i := 103) (n := 5711) (f := zw_125) (zh_304_60 E) (by decide) (by decide)
