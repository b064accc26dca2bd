/-! ===== every resolved instruction is what the bytes and the words say (printed in part by wip/whole/mkok.py) ===== -/
/-- Object's constructor, arraycopy, a text's length and signs: program, entry, where the word is -/
def OIk : List (Nat × Nat × Nat) := [(8, 1, 194), (1, 3, 202), (3, 3, 308), (6, 3, 325), (5, 1, 331), (7, 3, 389), (4, 3, 416), (2, 3, 439), (0, 3, 466), (9, 18, 1208)]
def ACk : List (Nat × Nat × Nat) := [(5, 32, 913), (1, 67, 929), (3, 19, 934), (2, 54, 1132), (0, 47, 1167)]
def SLk : List (Nat × Nat × Nat) := [(6, 204, 733)]
def SCk : List (Nat × Nat × Nat) := [(6, 208, 743)]
def MNk : List (Nat × Nat × Nat) := [(7, 45, 631), (6, 24, 711), (1, 86, 983), (2, 48, 1131)]
def MXk : List (Nat × Nat × Nat) := [(5, 7, 332), (7, 50, 639)]
theorem ckMN : ∀ q ∈ MNk, lw_tbl[q.2.2]? = some (.methodLink (cnm.getD q.1 "") q.2.1 Lib.Math.min.name) := by decide +kernel
theorem ckMX : ∀ q ∈ MXk, lw_tbl[q.2.2]? = some (.methodLink (cnm.getD q.1 "") q.2.1 Lib.Math.max.name) := by decide +kernel
theorem ckSL : ∀ q ∈ SLk, lw_tbl[q.2.2]? = some (.methodLink (cnm.getD q.1 "") q.2.1 ⟨"java/lang/String", "length", "()I"⟩) := by decide +kernel
theorem ckSC : ∀ q ∈ SCk, lw_tbl[q.2.2]? = some (.methodLink (cnm.getD q.1 "") q.2.1 ⟨"java/lang/String", "charAt", "(I)C"⟩) := by decide +kernel
theorem ckOI : ∀ q ∈ OIk, lw_tbl[q.2.2]? = some (.methodLink (cnm.getD q.1 "") q.2.1 objectInit) := by decide +kernel
theorem ckAC : ∀ q ∈ ACk, lw_tbl[q.2.2]? = some (.methodLink (cnm.getD q.1 "") q.2.1 arraycopyName) := by decide +kernel
def tyOf (ci k : Nat) : Option FieldType := parseFieldDescriptor (cTX ci k).2.2.1
def isRT : Option FieldType → Bool
  | some (.object _) => true
  | some (.array _) => true
  | _ => false
def rOkc (r : Nat) (t : Option FieldType) : Bool := match t with
  | none => r == 0
  | some .int => r == 1
  | some .boolean => r == 1
  | some .long => r == 2
  | some (.object _) => r == 3 || r == 4
  | _ => false
def tagOf : ArrayType → Nat
  | .int => 0
  | .byte => 1
  | .boolean => 2
  | .long => 3
  | _ => 77
def nsq (e : EE) (t : List Nat) : Bool := e.2.2.2.1 == t
def lnq (e : EE) (n : Nat) : Bool := e.2.2.1 == n
def okb (m : Nat) (e : EE) : Bool :=
  decide (decode (bc m) e.1 = .ok (e.2.1, e.2.2.1)) &&
  (match e.2.1 with
  | .iload_n k | .lload_n k | .aload_n k => nsq e [k.val] && lnq e 1
  | .iload i | .lload i | .aload i => nsq e [i] && lnq e 2
  | .istore_n k | .astore_n k => nsq e [k.val] && lnq e 1 && Nat.blt k.val (mxL m)
  | .istore i | .astore i => nsq e [i] && lnq e 2 && Nat.blt i (mxL m)
  | .lstore_n k => nsq e [k.val] && lnq e 1 && Nat.blt (k.val + 1) (mxL m)
  | .lstore i => nsq e [i] && lnq e 2 && Nat.blt (i + 1) (mxL m)
  | .iinc i n => nsq e [i] && lnq e 3 && Nat.blt i (mxL m) && e.2.2.2.2.1 == [Int32.ofInt n]
  | .iconst n => e.2.2.2.2.1 == [Int32.ofInt n] && lnq e 1
  | .bipush n => e.2.2.2.2.1 == [(Int8.ofInt n).toInt32] && lnq e 2
  | .sipush n => e.2.2.2.2.1 == [(Int16.ofInt n).toInt32] && lnq e 3
  | .ldc i => lnq e 2 && (match e.2.2.2.1 with
    | [] => KIk.any (fun q => q.1 == cNo m && q.2.1 == i && q.2.2.1 == e.2.2.2.2.1.getD 0 0)
    | [k] => cNo m == 6 && Nat.ble 1000000 k && Nat.blt k 1000025 && strI.getD (k - 1000000) 0 == i
    | _ => false)
  | .ldc_w i => lnq e 3 && KIk.any (fun q => q.1 == cNo m && q.2.1 == i && q.2.2.1 == e.2.2.2.2.1.getD 0 0)
  | .lconst n => lnq e 1 && e.2.2.2.2.2 == [Int64.ofNat n.val]
  | .ldc2_w i => lnq e 3 && KJk.any (fun q => q.1 == cNo m && q.2.1 == i && q.2.2.1 == e.2.2.2.2.2.getD 0 0)
  | .goto off | .ifnull off | .ifnonnull off | .ifCond _ off | .if_icmp _ off => lnq e 3 && (match e.2.2.2.1 with
    | [t] => decide ((e.1 : Int) + off = (t : Int))
    | _ => false)
  | .tableswitch d lo hi offs => decide (0 ≤ lo) && decide (hi < 1000) && decide (hi + 1 = lo + offs.size) && e.2.2.2.2.1 == (List.range offs.size).map (fun (i : Nat) => Int32.ofInt (lo + (i : Int))) && (match e.2.2.2.1 with
    | t :: ts => decide ((e.1 : Int) + d = (t : Int)) && decide (ts.map (fun (t : Nat) => (t : Int)) = offs.toList.map (fun q => (e.1 : Int) + q))
    | _ => false)
  | .getfield i => lnq e 3 && (match e.2.2.2.1 with
    | [ci, k, _] => FL.any (fun q => q.1 == cNo m && q.2.1 == i && q.2.2.1 == ci && q.2.2.2.1 == k) && Nat.blt ci 10 && Nat.blt k (CKs.getD ci (0, 0, 0)).2.2
    | _ => false)
  | .putfield i => lnq e 3 && (match e.2.2.2.1 with
    | [ci, k, t] => Nat.blt ci 10 && Nat.blt k (CKs.getD ci (0, 0, 0)).2.2 && (match t with | 0 => decide (tyOf ci k = some .int) | 1 => decide (tyOf ci k = some .boolean) | _ => isRT (tyOf ci k)) &&
        (FL.any (fun q => q.1 == cNo m && q.2.1 == i && q.2.2.1 == ci && q.2.2.2.1 == k && ((cTX ci k).2.2.2 == false || (q.2.2.2.2.1 == 0 && mkd.getD m 9 == 1 && cNo m == ci))))
    | _ => false)
  | .newarray t => nsq e [tagOf t] && lnq e 2 && Nat.blt (tagOf t) 4
  | .anewarray i => lnq e 3 && (match e.2.2.2.1 with
    | [4] => CLk.any (fun q => q.1 == cNo m && q.2.1 == i && q.2.2.1 == 5)
    | [5] => CLk.any (fun q => q.1 == cNo m && q.2.1 == i && q.2.2.1 == 1)
    | _ => false)
  | .new i => lnq e 3 && (match e.2.2.2.1 with
    | [ci, n] => Nat.blt ci 10 && CLk.any (fun q => q.1 == cNo m && q.2.1 == i && q.2.2.1 == ci) && n == (CKs.getD ci (0, 0, 0)).2.2
    | _ => false)
  | .invokevirtual i => lnq e 3 && (match e.2.2.2.1 with
    | [mt, n, r, c] => MLk.any (fun q => q.1 == cNo m && q.2.1 == i && q.2.2.1 == mt) && Nat.blt mt 274 && mkd.getD mt 9 == 2 && n == mna.getD mt 0 + 1 && c == cNo mt + 1 && Nat.blt (cNo mt) 10 && rOkc r (rtT mt)
    | [2] => SLk.any (fun q => q.1 == cNo m && q.2.1 == i)
    | [3] => SCk.any (fun q => q.1 == cNo m && q.2.1 == i)
    | _ => false)
  | .invokestatic i => lnq e 3 && (match e.2.2.2.1 with
    | [mt, n, r, c] => MLk.any (fun q => q.1 == cNo m && q.2.1 == i && q.2.2.1 == mt && q.2.2.2.1 == 0) && Nat.blt mt 274 && mkd.getD mt 9 == 0 && n == mna.getD mt 0 && c == 0 && rOkc r (rtT mt)
    | [1] => ACk.any (fun q => q.1 == cNo m && q.2.1 == i)
    | [4] => MNk.any (fun q => q.1 == cNo m && q.2.1 == i)
    | [5] => MXk.any (fun q => q.1 == cNo m && q.2.1 == i)
    | _ => false)
  | .invokespecial i => lnq e 3 && (match e.2.2.2.1 with
    | [mt, n, r, c] => MLk.any (fun q => q.1 == cNo m && q.2.1 == i && q.2.2.1 == mt) && Nat.blt mt 274 && mkd.getD mt 9 == 1 && n == mna.getD mt 0 + 1 && c == cNo mt + 1 && Nat.blt (cNo mt) 10 && r == 0 && decide (rtT mt = none)
    | [0] => OIk.any (fun q => q.1 == cNo m && q.2.1 == i)
    | _ => false)
  | .ireturn => lnq e 1 && ((rks.getD m 99 == 1 && decide (rtT m = some .int)) || (rks.getD m 99 == 5 && decide (rtT m = some .boolean)))
  | .lreturn => lnq e 1 && decide (rtT m = some .long)
  | .areturn => lnq e 1 && isRT (rtT m)
  | .return_ => lnq e 1 && decide (rtT m = none)
  | _ => lnq e 1)

theorem ok_0_0 : ∀ e ∈ (pg0.drop 0).take 60, okb 0 e = true := by decide +kernel
theorem ok_0 : ∀ e ∈ pg0, okb 0 e = true := fun e h => ok_0_0 e (by rw [List.drop_zero, List.take_of_length_le (by decide)]; exact h)
theorem ok_1_0 : ∀ e ∈ (pg1.drop 0).take 60, okb 1 e = true := by decide +kernel
theorem ok_1 : ∀ e ∈ pg1, okb 1 e = true := fun e h => ok_1_0 e (by rw [List.drop_zero, List.take_of_length_le (by decide)]; exact h)
theorem ok_2_0 : ∀ e ∈ (pg2.drop 0).take 60, okb 2 e = true := by decide +kernel
theorem ok_2_60 : ∀ e ∈ (pg2.drop 60).take 60, okb 2 e = true := by decide +kernel
theorem ok_2_120 : ∀ e ∈ (pg2.drop 120).take 60, okb 2 e = true := by decide +kernel
set_option maxRecDepth 100000 in
theorem ok_2 : ∀ e ∈ pg2, okb 2 e = true := by
  intro q hq
  obtain ⟨i, hi⟩ := List.getElem?_of_mem hq
  by_cases h0 : i < 60
  · exact ok_2_0 q (List.mem_of_getElem? (i := i - 0) (by rw [List.getElem?_take, if_pos (by omega), List.getElem?_drop, show 0 + (i - 0) = i by omega]; exact hi))
  by_cases h60 : i < 120
  · exact ok_2_60 q (List.mem_of_getElem? (i := i - 60) (by rw [List.getElem?_take, if_pos (by omega), List.getElem?_drop, show 60 + (i - 60) = i by omega]; exact hi))
  by_cases h120 : i < 180
  · exact ok_2_120 q (List.mem_of_getElem? (i := i - 120) (by rw [List.getElem?_take, if_pos (by omega), List.getElem?_drop, show 120 + (i - 120) = i by omega]; exact hi))
  exact absurd (List.getElem?_eq_some_iff.mp hi).1 (by rw [show pg2.length = 125 from rfl]; omega)
theorem ok_3_0 : ∀ e ∈ (pg3.drop 0).take 60, okb 3 e = true := by decide +kernel
theorem ok_3 : ∀ e ∈ pg3, okb 3 e = true := fun e h => ok_3_0 e (by rw [List.drop_zero, List.take_of_length_le (by decide)]; exact h)
theorem ok_4_0 : ∀ e ∈ (pg4.drop 0).take 60, okb 4 e = true := by decide +kernel
theorem ok_4_60 : ∀ e ∈ (pg4.drop 60).take 60, okb 4 e = true := by decide +kernel
theorem ok_4_120 : ∀ e ∈ (pg4.drop 120).take 60, okb 4 e = true := by decide +kernel
set_option maxRecDepth 100000 in
theorem ok_4 : ∀ e ∈ pg4, okb 4 e = true := by
  intro q hq
  obtain ⟨i, hi⟩ := List.getElem?_of_mem hq
  by_cases h0 : i < 60
  · exact ok_4_0 q (List.mem_of_getElem? (i := i - 0) (by rw [List.getElem?_take, if_pos (by omega), List.getElem?_drop, show 0 + (i - 0) = i by omega]; exact hi))
  by_cases h60 : i < 120
  · exact ok_4_60 q (List.mem_of_getElem? (i := i - 60) (by rw [List.getElem?_take, if_pos (by omega), List.getElem?_drop, show 60 + (i - 60) = i by omega]; exact hi))
  by_cases h120 : i < 180
  · exact ok_4_120 q (List.mem_of_getElem? (i := i - 120) (by rw [List.getElem?_take, if_pos (by omega), List.getElem?_drop, show 120 + (i - 120) = i by omega]; exact hi))
  exact absurd (List.getElem?_eq_some_iff.mp hi).1 (by rw [show pg4.length = 124 from rfl]; omega)
theorem ok_5_0 : ∀ e ∈ (pg5.drop 0).take 60, okb 5 e = true := by decide +kernel
theorem ok_5 : ∀ e ∈ pg5, okb 5 e = true := fun e h => ok_5_0 e (by rw [List.drop_zero, List.take_of_length_le (by decide)]; exact h)
theorem ok_6_0 : ∀ e ∈ (pg6.drop 0).take 60, okb 6 e = true := by decide +kernel
theorem ok_6 : ∀ e ∈ pg6, okb 6 e = true := fun e h => ok_6_0 e (by rw [List.drop_zero, List.take_of_length_le (by decide)]; exact h)
theorem ok_7_0 : ∀ e ∈ (pg7.drop 0).take 60, okb 7 e = true := by decide +kernel
theorem ok_7 : ∀ e ∈ pg7, okb 7 e = true := fun e h => ok_7_0 e (by rw [List.drop_zero, List.take_of_length_le (by decide)]; exact h)
theorem ok_8_0 : ∀ e ∈ (pg8.drop 0).take 60, okb 8 e = true := by decide +kernel
theorem ok_8 : ∀ e ∈ pg8, okb 8 e = true := fun e h => ok_8_0 e (by rw [List.drop_zero, List.take_of_length_le (by decide)]; exact h)
theorem ok_9_0 : ∀ e ∈ (pg9.drop 0).take 60, okb 9 e = true := by decide +kernel
theorem ok_9 : ∀ e ∈ pg9, okb 9 e = true := fun e h => ok_9_0 e (by rw [List.drop_zero, List.take_of_length_le (by decide)]; exact h)
theorem ok_10_0 : ∀ e ∈ (pg10.drop 0).take 60, okb 10 e = true := by decide +kernel
theorem ok_10 : ∀ e ∈ pg10, okb 10 e = true := fun e h => ok_10_0 e (by rw [List.drop_zero, List.take_of_length_le (by decide)]; exact h)
theorem ok_11_0 : ∀ e ∈ (pg11.drop 0).take 60, okb 11 e = true := by decide +kernel
theorem ok_11 : ∀ e ∈ pg11, okb 11 e = true := fun e h => ok_11_0 e (by rw [List.drop_zero, List.take_of_length_le (by decide)]; exact h)
theorem ok_12_0 : ∀ e ∈ (pg12.drop 0).take 60, okb 12 e = true := by decide +kernel
theorem ok_12 : ∀ e ∈ pg12, okb 12 e = true := fun e h => ok_12_0 e (by rw [List.drop_zero, List.take_of_length_le (by decide)]; exact h)
theorem ok_13_0 : ∀ e ∈ (pg13.drop 0).take 60, okb 13 e = true := by decide +kernel
theorem ok_13 : ∀ e ∈ pg13, okb 13 e = true := fun e h => ok_13_0 e (by rw [List.drop_zero, List.take_of_length_le (by decide)]; exact h)
theorem ok_14_0 : ∀ e ∈ (pg14.drop 0).take 60, okb 14 e = true := by decide +kernel
theorem ok_14 : ∀ e ∈ pg14, okb 14 e = true := fun e h => ok_14_0 e (by rw [List.drop_zero, List.take_of_length_le (by decide)]; exact h)
theorem ok_15_0 : ∀ e ∈ (pg15.drop 0).take 60, okb 15 e = true := by decide +kernel
theorem ok_15 : ∀ e ∈ pg15, okb 15 e = true := fun e h => ok_15_0 e (by rw [List.drop_zero, List.take_of_length_le (by decide)]; exact h)
theorem ok_16_0 : ∀ e ∈ (pg16.drop 0).take 60, okb 16 e = true := by decide +kernel
theorem ok_16 : ∀ e ∈ pg16, okb 16 e = true := fun e h => ok_16_0 e (by rw [List.drop_zero, List.take_of_length_le (by decide)]; exact h)
theorem ok_17_0 : ∀ e ∈ (pg17.drop 0).take 60, okb 17 e = true := by decide +kernel
theorem ok_17 : ∀ e ∈ pg17, okb 17 e = true := fun e h => ok_17_0 e (by rw [List.drop_zero, List.take_of_length_le (by decide)]; exact h)
theorem ok_18_0 : ∀ e ∈ (pg18.drop 0).take 60, okb 18 e = true := by decide +kernel
theorem ok_18 : ∀ e ∈ pg18, okb 18 e = true := fun e h => ok_18_0 e (by rw [List.drop_zero, List.take_of_length_le (by decide)]; exact h)
theorem ok_19_0 : ∀ e ∈ (pg19.drop 0).take 60, okb 19 e = true := by decide +kernel
theorem ok_19 : ∀ e ∈ pg19, okb 19 e = true := fun e h => ok_19_0 e (by rw [List.drop_zero, List.take_of_length_le (by decide)]; exact h)
theorem ok_20_0 : ∀ e ∈ (pg20.drop 0).take 60, okb 20 e = true := by decide +kernel
theorem ok_20 : ∀ e ∈ pg20, okb 20 e = true := fun e h => ok_20_0 e (by rw [List.drop_zero, List.take_of_length_le (by decide)]; exact h)
theorem ok_21_0 : ∀ e ∈ (pg21.drop 0).take 60, okb 21 e = true := by decide +kernel
theorem ok_21 : ∀ e ∈ pg21, okb 21 e = true := fun e h => ok_21_0 e (by rw [List.drop_zero, List.take_of_length_le (by decide)]; exact h)
theorem ok_22_0 : ∀ e ∈ (pg22.drop 0).take 60, okb 22 e = true := by decide +kernel
theorem ok_22_60 : ∀ e ∈ (pg22.drop 60).take 60, okb 22 e = true := by decide +kernel
set_option maxRecDepth 100000 in
theorem ok_22 : ∀ e ∈ pg22, okb 22 e = true := by
  intro q hq
  obtain ⟨i, hi⟩ := List.getElem?_of_mem hq
  by_cases h0 : i < 60
  · exact ok_22_0 q (List.mem_of_getElem? (i := i - 0) (by rw [List.getElem?_take, if_pos (by omega), List.getElem?_drop, show 0 + (i - 0) = i by omega]; exact hi))
  by_cases h60 : i < 120
  · exact ok_22_60 q (List.mem_of_getElem? (i := i - 60) (by rw [List.getElem?_take, if_pos (by omega), List.getElem?_drop, show 60 + (i - 60) = i by omega]; exact hi))
  exact absurd (List.getElem?_eq_some_iff.mp hi).1 (by rw [show pg22.length = 81 from rfl]; omega)
theorem ok_23_0 : ∀ e ∈ (pg23.drop 0).take 60, okb 23 e = true := by decide +kernel
theorem ok_23 : ∀ e ∈ pg23, okb 23 e = true := fun e h => ok_23_0 e (by rw [List.drop_zero, List.take_of_length_le (by decide)]; exact h)
theorem ok_24_0 : ∀ e ∈ (pg24.drop 0).take 60, okb 24 e = true := by decide +kernel
theorem ok_24 : ∀ e ∈ pg24, okb 24 e = true := fun e h => ok_24_0 e (by rw [List.drop_zero, List.take_of_length_le (by decide)]; exact h)
theorem ok_25_0 : ∀ e ∈ (pg25.drop 0).take 60, okb 25 e = true := by decide +kernel
theorem ok_25_60 : ∀ e ∈ (pg25.drop 60).take 60, okb 25 e = true := by decide +kernel
set_option maxRecDepth 100000 in
theorem ok_25 : ∀ e ∈ pg25, okb 25 e = true := by
  intro q hq
  obtain ⟨i, hi⟩ := List.getElem?_of_mem hq
  by_cases h0 : i < 60
  · exact ok_25_0 q (List.mem_of_getElem? (i := i - 0) (by rw [List.getElem?_take, if_pos (by omega), List.getElem?_drop, show 0 + (i - 0) = i by omega]; exact hi))
  by_cases h60 : i < 120
  · exact ok_25_60 q (List.mem_of_getElem? (i := i - 60) (by rw [List.getElem?_take, if_pos (by omega), List.getElem?_drop, show 60 + (i - 60) = i by omega]; exact hi))
  exact absurd (List.getElem?_eq_some_iff.mp hi).1 (by rw [show pg25.length = 87 from rfl]; omega)
theorem ok_26_0 : ∀ e ∈ (pg26.drop 0).take 60, okb 26 e = true := by decide +kernel
theorem ok_26 : ∀ e ∈ pg26, okb 26 e = true := fun e h => ok_26_0 e (by rw [List.drop_zero, List.take_of_length_le (by decide)]; exact h)
theorem ok_27_0 : ∀ e ∈ (pg27.drop 0).take 60, okb 27 e = true := by decide +kernel
theorem ok_27 : ∀ e ∈ pg27, okb 27 e = true := fun e h => ok_27_0 e (by rw [List.drop_zero, List.take_of_length_le (by decide)]; exact h)
theorem ok_28_0 : ∀ e ∈ (pg28.drop 0).take 60, okb 28 e = true := by decide +kernel
theorem ok_28 : ∀ e ∈ pg28, okb 28 e = true := fun e h => ok_28_0 e (by rw [List.drop_zero, List.take_of_length_le (by decide)]; exact h)
theorem ok_29_0 : ∀ e ∈ (pg29.drop 0).take 60, okb 29 e = true := by decide +kernel
theorem ok_29 : ∀ e ∈ pg29, okb 29 e = true := fun e h => ok_29_0 e (by rw [List.drop_zero, List.take_of_length_le (by decide)]; exact h)
theorem ok_30_0 : ∀ e ∈ (pg30.drop 0).take 60, okb 30 e = true := by decide +kernel
theorem ok_30_60 : ∀ e ∈ (pg30.drop 60).take 60, okb 30 e = true := by decide +kernel
set_option maxRecDepth 100000 in
theorem ok_30 : ∀ e ∈ pg30, okb 30 e = true := by
  intro q hq
  obtain ⟨i, hi⟩ := List.getElem?_of_mem hq
  by_cases h0 : i < 60
  · exact ok_30_0 q (List.mem_of_getElem? (i := i - 0) (by rw [List.getElem?_take, if_pos (by omega), List.getElem?_drop, show 0 + (i - 0) = i by omega]; exact hi))
  by_cases h60 : i < 120
  · exact ok_30_60 q (List.mem_of_getElem? (i := i - 60) (by rw [List.getElem?_take, if_pos (by omega), List.getElem?_drop, show 60 + (i - 60) = i by omega]; exact hi))
  exact absurd (List.getElem?_eq_some_iff.mp hi).1 (by rw [show pg30.length = 86 from rfl]; omega)
theorem ok_31_0 : ∀ e ∈ (pg31.drop 0).take 60, okb 31 e = true := by decide +kernel
theorem ok_31 : ∀ e ∈ pg31, okb 31 e = true := fun e h => ok_31_0 e (by rw [List.drop_zero, List.take_of_length_le (by decide)]; exact h)
theorem ok_32_0 : ∀ e ∈ (pg32.drop 0).take 60, okb 32 e = true := by decide +kernel
theorem ok_32_60 : ∀ e ∈ (pg32.drop 60).take 60, okb 32 e = true := by decide +kernel
set_option maxRecDepth 100000 in
theorem ok_32 : ∀ e ∈ pg32, okb 32 e = true := by
  intro q hq
  obtain ⟨i, hi⟩ := List.getElem?_of_mem hq
  by_cases h0 : i < 60
  · exact ok_32_0 q (List.mem_of_getElem? (i := i - 0) (by rw [List.getElem?_take, if_pos (by omega), List.getElem?_drop, show 0 + (i - 0) = i by omega]; exact hi))
  by_cases h60 : i < 120
  · exact ok_32_60 q (List.mem_of_getElem? (i := i - 60) (by rw [List.getElem?_take, if_pos (by omega), List.getElem?_drop, show 60 + (i - 60) = i by omega]; exact hi))
  exact absurd (List.getElem?_eq_some_iff.mp hi).1 (by rw [show pg32.length = 104 from rfl]; omega)
theorem ok_33_0 : ∀ e ∈ (pg33.drop 0).take 60, okb 33 e = true := by decide +kernel
theorem ok_33 : ∀ e ∈ pg33, okb 33 e = true := fun e h => ok_33_0 e (by rw [List.drop_zero, List.take_of_length_le (by decide)]; exact h)
theorem ok_34_0 : ∀ e ∈ (pg34.drop 0).take 60, okb 34 e = true := by decide +kernel
theorem ok_34 : ∀ e ∈ pg34, okb 34 e = true := fun e h => ok_34_0 e (by rw [List.drop_zero, List.take_of_length_le (by decide)]; exact h)
theorem ok_35_0 : ∀ e ∈ (pg35.drop 0).take 60, okb 35 e = true := by decide +kernel
theorem ok_35 : ∀ e ∈ pg35, okb 35 e = true := fun e h => ok_35_0 e (by rw [List.drop_zero, List.take_of_length_le (by decide)]; exact h)
theorem ok_36_0 : ∀ e ∈ (pg36.drop 0).take 60, okb 36 e = true := by decide +kernel
theorem ok_36_60 : ∀ e ∈ (pg36.drop 60).take 60, okb 36 e = true := by decide +kernel
set_option maxRecDepth 100000 in
theorem ok_36 : ∀ e ∈ pg36, okb 36 e = true := by
  intro q hq
  obtain ⟨i, hi⟩ := List.getElem?_of_mem hq
  by_cases h0 : i < 60
  · exact ok_36_0 q (List.mem_of_getElem? (i := i - 0) (by rw [List.getElem?_take, if_pos (by omega), List.getElem?_drop, show 0 + (i - 0) = i by omega]; exact hi))
  by_cases h60 : i < 120
  · exact ok_36_60 q (List.mem_of_getElem? (i := i - 60) (by rw [List.getElem?_take, if_pos (by omega), List.getElem?_drop, show 60 + (i - 60) = i by omega]; exact hi))
  exact absurd (List.getElem?_eq_some_iff.mp hi).1 (by rw [show pg36.length = 83 from rfl]; omega)
theorem ok_37_0 : ∀ e ∈ (pg37.drop 0).take 60, okb 37 e = true := by decide +kernel
theorem ok_37 : ∀ e ∈ pg37, okb 37 e = true := fun e h => ok_37_0 e (by rw [List.drop_zero, List.take_of_length_le (by decide)]; exact h)
theorem ok_38_0 : ∀ e ∈ (pg38.drop 0).take 60, okb 38 e = true := by decide +kernel
theorem ok_38_60 : ∀ e ∈ (pg38.drop 60).take 60, okb 38 e = true := by decide +kernel
set_option maxRecDepth 100000 in
theorem ok_38 : ∀ e ∈ pg38, okb 38 e = true := by
  intro q hq
  obtain ⟨i, hi⟩ := List.getElem?_of_mem hq
  by_cases h0 : i < 60
  · exact ok_38_0 q (List.mem_of_getElem? (i := i - 0) (by rw [List.getElem?_take, if_pos (by omega), List.getElem?_drop, show 0 + (i - 0) = i by omega]; exact hi))
  by_cases h60 : i < 120
  · exact ok_38_60 q (List.mem_of_getElem? (i := i - 60) (by rw [List.getElem?_take, if_pos (by omega), List.getElem?_drop, show 60 + (i - 60) = i by omega]; exact hi))
  exact absurd (List.getElem?_eq_some_iff.mp hi).1 (by rw [show pg38.length = 64 from rfl]; omega)
theorem ok_39_0 : ∀ e ∈ (pg39.drop 0).take 60, okb 39 e = true := by decide +kernel
theorem ok_39_60 : ∀ e ∈ (pg39.drop 60).take 60, okb 39 e = true := by decide +kernel
set_option maxRecDepth 100000 in
theorem ok_39 : ∀ e ∈ pg39, okb 39 e = true := by
  intro q hq
  obtain ⟨i, hi⟩ := List.getElem?_of_mem hq
  by_cases h0 : i < 60
  · exact ok_39_0 q (List.mem_of_getElem? (i := i - 0) (by rw [List.getElem?_take, if_pos (by omega), List.getElem?_drop, show 0 + (i - 0) = i by omega]; exact hi))
  by_cases h60 : i < 120
  · exact ok_39_60 q (List.mem_of_getElem? (i := i - 60) (by rw [List.getElem?_take, if_pos (by omega), List.getElem?_drop, show 60 + (i - 60) = i by omega]; exact hi))
  exact absurd (List.getElem?_eq_some_iff.mp hi).1 (by rw [show pg39.length = 68 from rfl]; omega)
theorem ok_40_0 : ∀ e ∈ (pg40.drop 0).take 60, okb 40 e = true := by decide +kernel
theorem ok_40 : ∀ e ∈ pg40, okb 40 e = true := fun e h => ok_40_0 e (by rw [List.drop_zero, List.take_of_length_le (by decide)]; exact h)
theorem ok_41_0 : ∀ e ∈ (pg41.drop 0).take 60, okb 41 e = true := by decide +kernel
theorem ok_41 : ∀ e ∈ pg41, okb 41 e = true := fun e h => ok_41_0 e (by rw [List.drop_zero, List.take_of_length_le (by decide)]; exact h)
theorem ok_42_0 : ∀ e ∈ (pg42.drop 0).take 60, okb 42 e = true := by decide +kernel
theorem ok_42 : ∀ e ∈ pg42, okb 42 e = true := fun e h => ok_42_0 e (by rw [List.drop_zero, List.take_of_length_le (by decide)]; exact h)
theorem ok_43_0 : ∀ e ∈ (pg43.drop 0).take 60, okb 43 e = true := by decide +kernel
theorem ok_43 : ∀ e ∈ pg43, okb 43 e = true := fun e h => ok_43_0 e (by rw [List.drop_zero, List.take_of_length_le (by decide)]; exact h)
theorem ok_44_0 : ∀ e ∈ (pg44.drop 0).take 60, okb 44 e = true := by decide +kernel
theorem ok_44 : ∀ e ∈ pg44, okb 44 e = true := fun e h => ok_44_0 e (by rw [List.drop_zero, List.take_of_length_le (by decide)]; exact h)
theorem ok_45_0 : ∀ e ∈ (pg45.drop 0).take 60, okb 45 e = true := by decide +kernel
theorem ok_45 : ∀ e ∈ pg45, okb 45 e = true := fun e h => ok_45_0 e (by rw [List.drop_zero, List.take_of_length_le (by decide)]; exact h)
theorem ok_46_0 : ∀ e ∈ (pg46.drop 0).take 60, okb 46 e = true := by decide +kernel
theorem ok_46 : ∀ e ∈ pg46, okb 46 e = true := fun e h => ok_46_0 e (by rw [List.drop_zero, List.take_of_length_le (by decide)]; exact h)
theorem ok_47_0 : ∀ e ∈ (pg47.drop 0).take 60, okb 47 e = true := by decide +kernel
theorem ok_47 : ∀ e ∈ pg47, okb 47 e = true := fun e h => ok_47_0 e (by rw [List.drop_zero, List.take_of_length_le (by decide)]; exact h)
theorem ok_48_0 : ∀ e ∈ (pg48.drop 0).take 60, okb 48 e = true := by decide +kernel
theorem ok_48 : ∀ e ∈ pg48, okb 48 e = true := fun e h => ok_48_0 e (by rw [List.drop_zero, List.take_of_length_le (by decide)]; exact h)
theorem ok_49_0 : ∀ e ∈ (pg49.drop 0).take 60, okb 49 e = true := by decide +kernel
theorem ok_49 : ∀ e ∈ pg49, okb 49 e = true := fun e h => ok_49_0 e (by rw [List.drop_zero, List.take_of_length_le (by decide)]; exact h)
theorem ok_50_0 : ∀ e ∈ (pg50.drop 0).take 60, okb 50 e = true := by decide +kernel
theorem ok_50 : ∀ e ∈ pg50, okb 50 e = true := fun e h => ok_50_0 e (by rw [List.drop_zero, List.take_of_length_le (by decide)]; exact h)
theorem ok_51_0 : ∀ e ∈ (pg51.drop 0).take 60, okb 51 e = true := by decide +kernel
theorem ok_51 : ∀ e ∈ pg51, okb 51 e = true := fun e h => ok_51_0 e (by rw [List.drop_zero, List.take_of_length_le (by decide)]; exact h)
theorem ok_52_0 : ∀ e ∈ (pg52.drop 0).take 60, okb 52 e = true := by decide +kernel
theorem ok_52 : ∀ e ∈ pg52, okb 52 e = true := fun e h => ok_52_0 e (by rw [List.drop_zero, List.take_of_length_le (by decide)]; exact h)
theorem ok_53_0 : ∀ e ∈ (pg53.drop 0).take 60, okb 53 e = true := by decide +kernel
theorem ok_53 : ∀ e ∈ pg53, okb 53 e = true := fun e h => ok_53_0 e (by rw [List.drop_zero, List.take_of_length_le (by decide)]; exact h)
theorem ok_54_0 : ∀ e ∈ (pg54.drop 0).take 60, okb 54 e = true := by decide +kernel
theorem ok_54_60 : ∀ e ∈ (pg54.drop 60).take 60, okb 54 e = true := by decide +kernel
set_option maxRecDepth 100000 in
theorem ok_54 : ∀ e ∈ pg54, okb 54 e = true := by
  intro q hq
  obtain ⟨i, hi⟩ := List.getElem?_of_mem hq
  by_cases h0 : i < 60
  · exact ok_54_0 q (List.mem_of_getElem? (i := i - 0) (by rw [List.getElem?_take, if_pos (by omega), List.getElem?_drop, show 0 + (i - 0) = i by omega]; exact hi))
  by_cases h60 : i < 120
  · exact ok_54_60 q (List.mem_of_getElem? (i := i - 60) (by rw [List.getElem?_take, if_pos (by omega), List.getElem?_drop, show 60 + (i - 60) = i by omega]; exact hi))
  exact absurd (List.getElem?_eq_some_iff.mp hi).1 (by rw [show pg54.length = 67 from rfl]; omega)
theorem ok_55_0 : ∀ e ∈ (pg55.drop 0).take 60, okb 55 e = true := by decide +kernel
theorem ok_55 : ∀ e ∈ pg55, okb 55 e = true := fun e h => ok_55_0 e (by rw [List.drop_zero, List.take_of_length_le (by decide)]; exact h)
theorem ok_56_0 : ∀ e ∈ (pg56.drop 0).take 60, okb 56 e = true := by decide +kernel
theorem ok_56 : ∀ e ∈ pg56, okb 56 e = true := fun e h => ok_56_0 e (by rw [List.drop_zero, List.take_of_length_le (by decide)]; exact h)
theorem ok_57_0 : ∀ e ∈ (pg57.drop 0).take 60, okb 57 e = true := by decide +kernel
theorem ok_57 : ∀ e ∈ pg57, okb 57 e = true := fun e h => ok_57_0 e (by rw [List.drop_zero, List.take_of_length_le (by decide)]; exact h)
theorem ok_58_0 : ∀ e ∈ (pg58.drop 0).take 60, okb 58 e = true := by decide +kernel
theorem ok_58 : ∀ e ∈ pg58, okb 58 e = true := fun e h => ok_58_0 e (by rw [List.drop_zero, List.take_of_length_le (by decide)]; exact h)
theorem ok_59_0 : ∀ e ∈ (pg59.drop 0).take 60, okb 59 e = true := by decide +kernel
theorem ok_59 : ∀ e ∈ pg59, okb 59 e = true := fun e h => ok_59_0 e (by rw [List.drop_zero, List.take_of_length_le (by decide)]; exact h)
theorem ok_60_0 : ∀ e ∈ (pg60.drop 0).take 60, okb 60 e = true := by decide +kernel
theorem ok_60 : ∀ e ∈ pg60, okb 60 e = true := fun e h => ok_60_0 e (by rw [List.drop_zero, List.take_of_length_le (by decide)]; exact h)
theorem ok_61_0 : ∀ e ∈ (pg61.drop 0).take 60, okb 61 e = true := by decide +kernel
theorem ok_61 : ∀ e ∈ pg61, okb 61 e = true := fun e h => ok_61_0 e (by rw [List.drop_zero, List.take_of_length_le (by decide)]; exact h)
theorem ok_62_0 : ∀ e ∈ (pg62.drop 0).take 60, okb 62 e = true := by decide +kernel
theorem ok_62 : ∀ e ∈ pg62, okb 62 e = true := fun e h => ok_62_0 e (by rw [List.drop_zero, List.take_of_length_le (by decide)]; exact h)
theorem ok_63_0 : ∀ e ∈ (pg63.drop 0).take 60, okb 63 e = true := by decide +kernel
theorem ok_63 : ∀ e ∈ pg63, okb 63 e = true := fun e h => ok_63_0 e (by rw [List.drop_zero, List.take_of_length_le (by decide)]; exact h)
theorem ok_64_0 : ∀ e ∈ (pg64.drop 0).take 60, okb 64 e = true := by decide +kernel
theorem ok_64 : ∀ e ∈ pg64, okb 64 e = true := fun e h => ok_64_0 e (by rw [List.drop_zero, List.take_of_length_le (by decide)]; exact h)
theorem ok_65_0 : ∀ e ∈ (pg65.drop 0).take 60, okb 65 e = true := by decide +kernel
theorem ok_65_60 : ∀ e ∈ (pg65.drop 60).take 60, okb 65 e = true := by decide +kernel
set_option maxRecDepth 100000 in
theorem ok_65 : ∀ e ∈ pg65, okb 65 e = true := by
  intro q hq
  obtain ⟨i, hi⟩ := List.getElem?_of_mem hq
  by_cases h0 : i < 60
  · exact ok_65_0 q (List.mem_of_getElem? (i := i - 0) (by rw [List.getElem?_take, if_pos (by omega), List.getElem?_drop, show 0 + (i - 0) = i by omega]; exact hi))
  by_cases h60 : i < 120
  · exact ok_65_60 q (List.mem_of_getElem? (i := i - 60) (by rw [List.getElem?_take, if_pos (by omega), List.getElem?_drop, show 60 + (i - 60) = i by omega]; exact hi))
  exact absurd (List.getElem?_eq_some_iff.mp hi).1 (by rw [show pg65.length = 61 from rfl]; omega)
theorem ok_66_0 : ∀ e ∈ (pg66.drop 0).take 60, okb 66 e = true := by decide +kernel
theorem ok_66 : ∀ e ∈ pg66, okb 66 e = true := fun e h => ok_66_0 e (by rw [List.drop_zero, List.take_of_length_le (by decide)]; exact h)
theorem ok_67_0 : ∀ e ∈ (pg67.drop 0).take 60, okb 67 e = true := by decide +kernel
theorem ok_67 : ∀ e ∈ pg67, okb 67 e = true := fun e h => ok_67_0 e (by rw [List.drop_zero, List.take_of_length_le (by decide)]; exact h)
theorem ok_68_0 : ∀ e ∈ (pg68.drop 0).take 60, okb 68 e = true := by decide +kernel
theorem ok_68 : ∀ e ∈ pg68, okb 68 e = true := fun e h => ok_68_0 e (by rw [List.drop_zero, List.take_of_length_le (by decide)]; exact h)
theorem ok_69_0 : ∀ e ∈ (pg69.drop 0).take 60, okb 69 e = true := by decide +kernel
theorem ok_69 : ∀ e ∈ pg69, okb 69 e = true := fun e h => ok_69_0 e (by rw [List.drop_zero, List.take_of_length_le (by decide)]; exact h)
theorem ok_70_0 : ∀ e ∈ (pg70.drop 0).take 60, okb 70 e = true := by decide +kernel
theorem ok_70 : ∀ e ∈ pg70, okb 70 e = true := fun e h => ok_70_0 e (by rw [List.drop_zero, List.take_of_length_le (by decide)]; exact h)
theorem ok_71_0 : ∀ e ∈ (pg71.drop 0).take 60, okb 71 e = true := by decide +kernel
theorem ok_71 : ∀ e ∈ pg71, okb 71 e = true := fun e h => ok_71_0 e (by rw [List.drop_zero, List.take_of_length_le (by decide)]; exact h)
theorem ok_72_0 : ∀ e ∈ (pg72.drop 0).take 60, okb 72 e = true := by decide +kernel
theorem ok_72 : ∀ e ∈ pg72, okb 72 e = true := fun e h => ok_72_0 e (by rw [List.drop_zero, List.take_of_length_le (by decide)]; exact h)
theorem ok_73_0 : ∀ e ∈ (pg73.drop 0).take 60, okb 73 e = true := by decide +kernel
theorem ok_73 : ∀ e ∈ pg73, okb 73 e = true := fun e h => ok_73_0 e (by rw [List.drop_zero, List.take_of_length_le (by decide)]; exact h)
theorem ok_74_0 : ∀ e ∈ (pg74.drop 0).take 60, okb 74 e = true := by decide +kernel
theorem ok_74 : ∀ e ∈ pg74, okb 74 e = true := fun e h => ok_74_0 e (by rw [List.drop_zero, List.take_of_length_le (by decide)]; exact h)
theorem ok_75_0 : ∀ e ∈ (pg75.drop 0).take 60, okb 75 e = true := by decide +kernel
theorem ok_75 : ∀ e ∈ pg75, okb 75 e = true := fun e h => ok_75_0 e (by rw [List.drop_zero, List.take_of_length_le (by decide)]; exact h)
theorem ok_76_0 : ∀ e ∈ (pg76.drop 0).take 60, okb 76 e = true := by decide +kernel
theorem ok_76 : ∀ e ∈ pg76, okb 76 e = true := fun e h => ok_76_0 e (by rw [List.drop_zero, List.take_of_length_le (by decide)]; exact h)
theorem ok_77_0 : ∀ e ∈ (pg77.drop 0).take 60, okb 77 e = true := by decide +kernel
theorem ok_77 : ∀ e ∈ pg77, okb 77 e = true := fun e h => ok_77_0 e (by rw [List.drop_zero, List.take_of_length_le (by decide)]; exact h)
theorem ok_78_0 : ∀ e ∈ (pg78.drop 0).take 60, okb 78 e = true := by decide +kernel
theorem ok_78_60 : ∀ e ∈ (pg78.drop 60).take 60, okb 78 e = true := by decide +kernel
theorem ok_78_120 : ∀ e ∈ (pg78.drop 120).take 60, okb 78 e = true := by decide +kernel
set_option maxRecDepth 100000 in
theorem ok_78 : ∀ e ∈ pg78, okb 78 e = true := by
  intro q hq
  obtain ⟨i, hi⟩ := List.getElem?_of_mem hq
  by_cases h0 : i < 60
  · exact ok_78_0 q (List.mem_of_getElem? (i := i - 0) (by rw [List.getElem?_take, if_pos (by omega), List.getElem?_drop, show 0 + (i - 0) = i by omega]; exact hi))
  by_cases h60 : i < 120
  · exact ok_78_60 q (List.mem_of_getElem? (i := i - 60) (by rw [List.getElem?_take, if_pos (by omega), List.getElem?_drop, show 60 + (i - 60) = i by omega]; exact hi))
  by_cases h120 : i < 180
  · exact ok_78_120 q (List.mem_of_getElem? (i := i - 120) (by rw [List.getElem?_take, if_pos (by omega), List.getElem?_drop, show 120 + (i - 120) = i by omega]; exact hi))
  exact absurd (List.getElem?_eq_some_iff.mp hi).1 (by rw [show pg78.length = 147 from rfl]; omega)
theorem ok_79_0 : ∀ e ∈ (pg79.drop 0).take 60, okb 79 e = true := by decide +kernel
theorem ok_79 : ∀ e ∈ pg79, okb 79 e = true := fun e h => ok_79_0 e (by rw [List.drop_zero, List.take_of_length_le (by decide)]; exact h)
theorem ok_80_0 : ∀ e ∈ (pg80.drop 0).take 60, okb 80 e = true := by decide +kernel
theorem ok_80 : ∀ e ∈ pg80, okb 80 e = true := fun e h => ok_80_0 e (by rw [List.drop_zero, List.take_of_length_le (by decide)]; exact h)
theorem ok_81_0 : ∀ e ∈ (pg81.drop 0).take 60, okb 81 e = true := by decide +kernel
theorem ok_81 : ∀ e ∈ pg81, okb 81 e = true := fun e h => ok_81_0 e (by rw [List.drop_zero, List.take_of_length_le (by decide)]; exact h)
theorem ok_82_0 : ∀ e ∈ (pg82.drop 0).take 60, okb 82 e = true := by decide +kernel
theorem ok_82 : ∀ e ∈ pg82, okb 82 e = true := fun e h => ok_82_0 e (by rw [List.drop_zero, List.take_of_length_le (by decide)]; exact h)
theorem ok_83_0 : ∀ e ∈ (pg83.drop 0).take 60, okb 83 e = true := by decide +kernel
theorem ok_83 : ∀ e ∈ pg83, okb 83 e = true := fun e h => ok_83_0 e (by rw [List.drop_zero, List.take_of_length_le (by decide)]; exact h)
theorem ok_84_0 : ∀ e ∈ (pg84.drop 0).take 60, okb 84 e = true := by decide +kernel
theorem ok_84_60 : ∀ e ∈ (pg84.drop 60).take 60, okb 84 e = true := by decide +kernel
set_option maxRecDepth 100000 in
theorem ok_84 : ∀ e ∈ pg84, okb 84 e = true := by
  intro q hq
  obtain ⟨i, hi⟩ := List.getElem?_of_mem hq
  by_cases h0 : i < 60
  · exact ok_84_0 q (List.mem_of_getElem? (i := i - 0) (by rw [List.getElem?_take, if_pos (by omega), List.getElem?_drop, show 0 + (i - 0) = i by omega]; exact hi))
  by_cases h60 : i < 120
  · exact ok_84_60 q (List.mem_of_getElem? (i := i - 60) (by rw [List.getElem?_take, if_pos (by omega), List.getElem?_drop, show 60 + (i - 60) = i by omega]; exact hi))
  exact absurd (List.getElem?_eq_some_iff.mp hi).1 (by rw [show pg84.length = 66 from rfl]; omega)
theorem ok_85_0 : ∀ e ∈ (pg85.drop 0).take 60, okb 85 e = true := by decide +kernel
theorem ok_85 : ∀ e ∈ pg85, okb 85 e = true := fun e h => ok_85_0 e (by rw [List.drop_zero, List.take_of_length_le (by decide)]; exact h)
theorem ok_86_0 : ∀ e ∈ (pg86.drop 0).take 60, okb 86 e = true := by decide +kernel
theorem ok_86 : ∀ e ∈ pg86, okb 86 e = true := fun e h => ok_86_0 e (by rw [List.drop_zero, List.take_of_length_le (by decide)]; exact h)
theorem ok_87_0 : ∀ e ∈ (pg87.drop 0).take 60, okb 87 e = true := by decide +kernel
theorem ok_87 : ∀ e ∈ pg87, okb 87 e = true := fun e h => ok_87_0 e (by rw [List.drop_zero, List.take_of_length_le (by decide)]; exact h)
theorem ok_88_0 : ∀ e ∈ (pg88.drop 0).take 60, okb 88 e = true := by decide +kernel
theorem ok_88 : ∀ e ∈ pg88, okb 88 e = true := fun e h => ok_88_0 e (by rw [List.drop_zero, List.take_of_length_le (by decide)]; exact h)
theorem ok_89_0 : ∀ e ∈ (pg89.drop 0).take 60, okb 89 e = true := by decide +kernel
theorem ok_89 : ∀ e ∈ pg89, okb 89 e = true := fun e h => ok_89_0 e (by rw [List.drop_zero, List.take_of_length_le (by decide)]; exact h)
theorem ok_90_0 : ∀ e ∈ (pg90.drop 0).take 60, okb 90 e = true := by decide +kernel
theorem ok_90_60 : ∀ e ∈ (pg90.drop 60).take 60, okb 90 e = true := by decide +kernel
theorem ok_90_120 : ∀ e ∈ (pg90.drop 120).take 60, okb 90 e = true := by decide +kernel
set_option maxRecDepth 100000 in
theorem ok_90 : ∀ e ∈ pg90, okb 90 e = true := by
  intro q hq
  obtain ⟨i, hi⟩ := List.getElem?_of_mem hq
  by_cases h0 : i < 60
  · exact ok_90_0 q (List.mem_of_getElem? (i := i - 0) (by rw [List.getElem?_take, if_pos (by omega), List.getElem?_drop, show 0 + (i - 0) = i by omega]; exact hi))
  by_cases h60 : i < 120
  · exact ok_90_60 q (List.mem_of_getElem? (i := i - 60) (by rw [List.getElem?_take, if_pos (by omega), List.getElem?_drop, show 60 + (i - 60) = i by omega]; exact hi))
  by_cases h120 : i < 180
  · exact ok_90_120 q (List.mem_of_getElem? (i := i - 120) (by rw [List.getElem?_take, if_pos (by omega), List.getElem?_drop, show 120 + (i - 120) = i by omega]; exact hi))
  exact absurd (List.getElem?_eq_some_iff.mp hi).1 (by rw [show pg90.length = 155 from rfl]; omega)
theorem ok_91_0 : ∀ e ∈ (pg91.drop 0).take 60, okb 91 e = true := by decide +kernel
theorem ok_91_60 : ∀ e ∈ (pg91.drop 60).take 60, okb 91 e = true := by decide +kernel
set_option maxRecDepth 100000 in
theorem ok_91 : ∀ e ∈ pg91, okb 91 e = true := by
  intro q hq
  obtain ⟨i, hi⟩ := List.getElem?_of_mem hq
  by_cases h0 : i < 60
  · exact ok_91_0 q (List.mem_of_getElem? (i := i - 0) (by rw [List.getElem?_take, if_pos (by omega), List.getElem?_drop, show 0 + (i - 0) = i by omega]; exact hi))
  by_cases h60 : i < 120
  · exact ok_91_60 q (List.mem_of_getElem? (i := i - 60) (by rw [List.getElem?_take, if_pos (by omega), List.getElem?_drop, show 60 + (i - 60) = i by omega]; exact hi))
  exact absurd (List.getElem?_eq_some_iff.mp hi).1 (by rw [show pg91.length = 79 from rfl]; omega)
theorem ok_92_0 : ∀ e ∈ (pg92.drop 0).take 60, okb 92 e = true := by decide +kernel
theorem ok_92_60 : ∀ e ∈ (pg92.drop 60).take 60, okb 92 e = true := by decide +kernel
set_option maxRecDepth 100000 in
theorem ok_92 : ∀ e ∈ pg92, okb 92 e = true := by
  intro q hq
  obtain ⟨i, hi⟩ := List.getElem?_of_mem hq
  by_cases h0 : i < 60
  · exact ok_92_0 q (List.mem_of_getElem? (i := i - 0) (by rw [List.getElem?_take, if_pos (by omega), List.getElem?_drop, show 0 + (i - 0) = i by omega]; exact hi))
  by_cases h60 : i < 120
  · exact ok_92_60 q (List.mem_of_getElem? (i := i - 60) (by rw [List.getElem?_take, if_pos (by omega), List.getElem?_drop, show 60 + (i - 60) = i by omega]; exact hi))
  exact absurd (List.getElem?_eq_some_iff.mp hi).1 (by rw [show pg92.length = 105 from rfl]; omega)
theorem ok_93_0 : ∀ e ∈ (pg93.drop 0).take 60, okb 93 e = true := by decide +kernel
theorem ok_93_60 : ∀ e ∈ (pg93.drop 60).take 60, okb 93 e = true := by decide +kernel
set_option maxRecDepth 100000 in
theorem ok_93 : ∀ e ∈ pg93, okb 93 e = true := by
  intro q hq
  obtain ⟨i, hi⟩ := List.getElem?_of_mem hq
  by_cases h0 : i < 60
  · exact ok_93_0 q (List.mem_of_getElem? (i := i - 0) (by rw [List.getElem?_take, if_pos (by omega), List.getElem?_drop, show 0 + (i - 0) = i by omega]; exact hi))
  by_cases h60 : i < 120
  · exact ok_93_60 q (List.mem_of_getElem? (i := i - 60) (by rw [List.getElem?_take, if_pos (by omega), List.getElem?_drop, show 60 + (i - 60) = i by omega]; exact hi))
  exact absurd (List.getElem?_eq_some_iff.mp hi).1 (by rw [show pg93.length = 66 from rfl]; omega)
theorem ok_94_0 : ∀ e ∈ (pg94.drop 0).take 60, okb 94 e = true := by decide +kernel
theorem ok_94 : ∀ e ∈ pg94, okb 94 e = true := fun e h => ok_94_0 e (by rw [List.drop_zero, List.take_of_length_le (by decide)]; exact h)
theorem ok_95_0 : ∀ e ∈ (pg95.drop 0).take 60, okb 95 e = true := by decide +kernel
theorem ok_95 : ∀ e ∈ pg95, okb 95 e = true := fun e h => ok_95_0 e (by rw [List.drop_zero, List.take_of_length_le (by decide)]; exact h)
theorem ok_96_0 : ∀ e ∈ (pg96.drop 0).take 60, okb 96 e = true := by decide +kernel
theorem ok_96_60 : ∀ e ∈ (pg96.drop 60).take 60, okb 96 e = true := by decide +kernel
set_option maxRecDepth 100000 in
theorem ok_96 : ∀ e ∈ pg96, okb 96 e = true := by
  intro q hq
  obtain ⟨i, hi⟩ := List.getElem?_of_mem hq
  by_cases h0 : i < 60
  · exact ok_96_0 q (List.mem_of_getElem? (i := i - 0) (by rw [List.getElem?_take, if_pos (by omega), List.getElem?_drop, show 0 + (i - 0) = i by omega]; exact hi))
  by_cases h60 : i < 120
  · exact ok_96_60 q (List.mem_of_getElem? (i := i - 60) (by rw [List.getElem?_take, if_pos (by omega), List.getElem?_drop, show 60 + (i - 60) = i by omega]; exact hi))
  exact absurd (List.getElem?_eq_some_iff.mp hi).1 (by rw [show pg96.length = 65 from rfl]; omega)
theorem ok_97_0 : ∀ e ∈ (pg97.drop 0).take 60, okb 97 e = true := by decide +kernel
theorem ok_97_60 : ∀ e ∈ (pg97.drop 60).take 60, okb 97 e = true := by decide +kernel
set_option maxRecDepth 100000 in
theorem ok_97 : ∀ e ∈ pg97, okb 97 e = true := by
  intro q hq
  obtain ⟨i, hi⟩ := List.getElem?_of_mem hq
  by_cases h0 : i < 60
  · exact ok_97_0 q (List.mem_of_getElem? (i := i - 0) (by rw [List.getElem?_take, if_pos (by omega), List.getElem?_drop, show 0 + (i - 0) = i by omega]; exact hi))
  by_cases h60 : i < 120
  · exact ok_97_60 q (List.mem_of_getElem? (i := i - 60) (by rw [List.getElem?_take, if_pos (by omega), List.getElem?_drop, show 60 + (i - 60) = i by omega]; exact hi))
  exact absurd (List.getElem?_eq_some_iff.mp hi).1 (by rw [show pg97.length = 67 from rfl]; omega)
theorem ok_98_0 : ∀ e ∈ (pg98.drop 0).take 60, okb 98 e = true := by decide +kernel
theorem ok_98 : ∀ e ∈ pg98, okb 98 e = true := fun e h => ok_98_0 e (by rw [List.drop_zero, List.take_of_length_le (by decide)]; exact h)
theorem ok_99_0 : ∀ e ∈ (pg99.drop 0).take 60, okb 99 e = true := by decide +kernel
theorem ok_99 : ∀ e ∈ pg99, okb 99 e = true := fun e h => ok_99_0 e (by rw [List.drop_zero, List.take_of_length_le (by decide)]; exact h)
theorem ok_100_0 : ∀ e ∈ (pg100.drop 0).take 60, okb 100 e = true := by decide +kernel
theorem ok_100 : ∀ e ∈ pg100, okb 100 e = true := fun e h => ok_100_0 e (by rw [List.drop_zero, List.take_of_length_le (by decide)]; exact h)
theorem ok_101_0 : ∀ e ∈ (pg101.drop 0).take 60, okb 101 e = true := by decide +kernel
theorem ok_101 : ∀ e ∈ pg101, okb 101 e = true := fun e h => ok_101_0 e (by rw [List.drop_zero, List.take_of_length_le (by decide)]; exact h)
theorem ok_102_0 : ∀ e ∈ (pg102.drop 0).take 60, okb 102 e = true := by decide +kernel
theorem ok_102 : ∀ e ∈ pg102, okb 102 e = true := fun e h => ok_102_0 e (by rw [List.drop_zero, List.take_of_length_le (by decide)]; exact h)
theorem ok_103_0 : ∀ e ∈ (pg103.drop 0).take 60, okb 103 e = true := by decide +kernel
theorem ok_103 : ∀ e ∈ pg103, okb 103 e = true := fun e h => ok_103_0 e (by rw [List.drop_zero, List.take_of_length_le (by decide)]; exact h)
theorem ok_104_0 : ∀ e ∈ (pg104.drop 0).take 60, okb 104 e = true := by decide +kernel
theorem ok_104 : ∀ e ∈ pg104, okb 104 e = true := fun e h => ok_104_0 e (by rw [List.drop_zero, List.take_of_length_le (by decide)]; exact h)
theorem ok_105_0 : ∀ e ∈ (pg105.drop 0).take 60, okb 105 e = true := by decide +kernel
theorem ok_105 : ∀ e ∈ pg105, okb 105 e = true := fun e h => ok_105_0 e (by rw [List.drop_zero, List.take_of_length_le (by decide)]; exact h)
theorem ok_106_0 : ∀ e ∈ (pg106.drop 0).take 60, okb 106 e = true := by decide +kernel
theorem ok_106_60 : ∀ e ∈ (pg106.drop 60).take 60, okb 106 e = true := by decide +kernel
set_option maxRecDepth 100000 in
theorem ok_106 : ∀ e ∈ pg106, okb 106 e = true := by
  intro q hq
  obtain ⟨i, hi⟩ := List.getElem?_of_mem hq
  by_cases h0 : i < 60
  · exact ok_106_0 q (List.mem_of_getElem? (i := i - 0) (by rw [List.getElem?_take, if_pos (by omega), List.getElem?_drop, show 0 + (i - 0) = i by omega]; exact hi))
  by_cases h60 : i < 120
  · exact ok_106_60 q (List.mem_of_getElem? (i := i - 60) (by rw [List.getElem?_take, if_pos (by omega), List.getElem?_drop, show 60 + (i - 60) = i by omega]; exact hi))
  exact absurd (List.getElem?_eq_some_iff.mp hi).1 (by rw [show pg106.length = 92 from rfl]; omega)
theorem ok_107_0 : ∀ e ∈ (pg107.drop 0).take 60, okb 107 e = true := by decide +kernel
theorem ok_107 : ∀ e ∈ pg107, okb 107 e = true := fun e h => ok_107_0 e (by rw [List.drop_zero, List.take_of_length_le (by decide)]; exact h)
theorem ok_108_0 : ∀ e ∈ (pg108.drop 0).take 60, okb 108 e = true := by decide +kernel
theorem ok_108 : ∀ e ∈ pg108, okb 108 e = true := fun e h => ok_108_0 e (by rw [List.drop_zero, List.take_of_length_le (by decide)]; exact h)
theorem ok_109_0 : ∀ e ∈ (pg109.drop 0).take 60, okb 109 e = true := by decide +kernel
theorem ok_109 : ∀ e ∈ pg109, okb 109 e = true := fun e h => ok_109_0 e (by rw [List.drop_zero, List.take_of_length_le (by decide)]; exact h)
theorem ok_110_0 : ∀ e ∈ (pg110.drop 0).take 60, okb 110 e = true := by decide +kernel
theorem ok_110 : ∀ e ∈ pg110, okb 110 e = true := fun e h => ok_110_0 e (by rw [List.drop_zero, List.take_of_length_le (by decide)]; exact h)
theorem ok_111_0 : ∀ e ∈ (pg111.drop 0).take 60, okb 111 e = true := by decide +kernel
theorem ok_111 : ∀ e ∈ pg111, okb 111 e = true := fun e h => ok_111_0 e (by rw [List.drop_zero, List.take_of_length_le (by decide)]; exact h)
theorem ok_112_0 : ∀ e ∈ (pg112.drop 0).take 60, okb 112 e = true := by decide +kernel
theorem ok_112 : ∀ e ∈ pg112, okb 112 e = true := fun e h => ok_112_0 e (by rw [List.drop_zero, List.take_of_length_le (by decide)]; exact h)
theorem ok_113_0 : ∀ e ∈ (pg113.drop 0).take 60, okb 113 e = true := by decide +kernel
theorem ok_113 : ∀ e ∈ pg113, okb 113 e = true := fun e h => ok_113_0 e (by rw [List.drop_zero, List.take_of_length_le (by decide)]; exact h)
theorem ok_114_0 : ∀ e ∈ (pg114.drop 0).take 60, okb 114 e = true := by decide +kernel
theorem ok_114 : ∀ e ∈ pg114, okb 114 e = true := fun e h => ok_114_0 e (by rw [List.drop_zero, List.take_of_length_le (by decide)]; exact h)
theorem ok_115_0 : ∀ e ∈ (pg115.drop 0).take 60, okb 115 e = true := by decide +kernel
theorem ok_115 : ∀ e ∈ pg115, okb 115 e = true := fun e h => ok_115_0 e (by rw [List.drop_zero, List.take_of_length_le (by decide)]; exact h)
theorem ok_116_0 : ∀ e ∈ (pg116.drop 0).take 60, okb 116 e = true := by decide +kernel
theorem ok_116 : ∀ e ∈ pg116, okb 116 e = true := fun e h => ok_116_0 e (by rw [List.drop_zero, List.take_of_length_le (by decide)]; exact h)
theorem ok_117_0 : ∀ e ∈ (pg117.drop 0).take 60, okb 117 e = true := by decide +kernel
theorem ok_117 : ∀ e ∈ pg117, okb 117 e = true := fun e h => ok_117_0 e (by rw [List.drop_zero, List.take_of_length_le (by decide)]; exact h)
theorem ok_118_0 : ∀ e ∈ (pg118.drop 0).take 60, okb 118 e = true := by decide +kernel
theorem ok_118 : ∀ e ∈ pg118, okb 118 e = true := fun e h => ok_118_0 e (by rw [List.drop_zero, List.take_of_length_le (by decide)]; exact h)
theorem ok_119_0 : ∀ e ∈ (pg119.drop 0).take 60, okb 119 e = true := by decide +kernel
theorem ok_119 : ∀ e ∈ pg119, okb 119 e = true := fun e h => ok_119_0 e (by rw [List.drop_zero, List.take_of_length_le (by decide)]; exact h)
theorem ok_120_0 : ∀ e ∈ (pg120.drop 0).take 60, okb 120 e = true := by decide +kernel
theorem ok_120 : ∀ e ∈ pg120, okb 120 e = true := fun e h => ok_120_0 e (by rw [List.drop_zero, List.take_of_length_le (by decide)]; exact h)
theorem ok_121_0 : ∀ e ∈ (pg121.drop 0).take 60, okb 121 e = true := by decide +kernel
theorem ok_121 : ∀ e ∈ pg121, okb 121 e = true := fun e h => ok_121_0 e (by rw [List.drop_zero, List.take_of_length_le (by decide)]; exact h)
theorem ok_122_0 : ∀ e ∈ (pg122.drop 0).take 60, okb 122 e = true := by decide +kernel
theorem ok_122 : ∀ e ∈ pg122, okb 122 e = true := fun e h => ok_122_0 e (by rw [List.drop_zero, List.take_of_length_le (by decide)]; exact h)
theorem ok_123_0 : ∀ e ∈ (pg123.drop 0).take 60, okb 123 e = true := by decide +kernel
theorem ok_123 : ∀ e ∈ pg123, okb 123 e = true := fun e h => ok_123_0 e (by rw [List.drop_zero, List.take_of_length_le (by decide)]; exact h)
theorem ok_124_0 : ∀ e ∈ (pg124.drop 0).take 60, okb 124 e = true := by decide +kernel
theorem ok_124 : ∀ e ∈ pg124, okb 124 e = true := fun e h => ok_124_0 e (by rw [List.drop_zero, List.take_of_length_le (by decide)]; exact h)
theorem ok_125_0 : ∀ e ∈ (pg125.drop 0).take 60, okb 125 e = true := by decide +kernel
theorem ok_125_60 : ∀ e ∈ (pg125.drop 60).take 60, okb 125 e = true := by decide +kernel
set_option maxRecDepth 100000 in
theorem ok_125 : ∀ e ∈ pg125, okb 125 e = true := by
  intro q hq
  obtain ⟨i, hi⟩ := List.getElem?_of_mem hq
  by_cases h0 : i < 60
  · exact ok_125_0 q (List.mem_of_getElem? (i := i - 0) (by rw [List.getElem?_take, if_pos (by omega), List.getElem?_drop, show 0 + (i - 0) = i by omega]; exact hi))
  by_cases h60 : i < 120
  · exact ok_125_60 q (List.mem_of_getElem? (i := i - 60) (by rw [List.getElem?_take, if_pos (by omega), List.getElem?_drop, show 60 + (i - 60) = i by omega]; exact hi))
  exact absurd (List.getElem?_eq_some_iff.mp hi).1 (by rw [show pg125.length = 103 from rfl]; omega)
theorem ok_126_0 : ∀ e ∈ (pg126.drop 0).take 60, okb 126 e = true := by decide +kernel
theorem ok_126 : ∀ e ∈ pg126, okb 126 e = true := fun e h => ok_126_0 e (by rw [List.drop_zero, List.take_of_length_le (by decide)]; exact h)
theorem ok_127_0 : ∀ e ∈ (pg127.drop 0).take 60, okb 127 e = true := by decide +kernel
theorem ok_127 : ∀ e ∈ pg127, okb 127 e = true := fun e h => ok_127_0 e (by rw [List.drop_zero, List.take_of_length_le (by decide)]; exact h)
theorem ok_128_0 : ∀ e ∈ (pg128.drop 0).take 60, okb 128 e = true := by decide +kernel
theorem ok_128 : ∀ e ∈ pg128, okb 128 e = true := fun e h => ok_128_0 e (by rw [List.drop_zero, List.take_of_length_le (by decide)]; exact h)
theorem ok_129_0 : ∀ e ∈ (pg129.drop 0).take 60, okb 129 e = true := by decide +kernel
theorem ok_129_60 : ∀ e ∈ (pg129.drop 60).take 60, okb 129 e = true := by decide +kernel
set_option maxRecDepth 100000 in
theorem ok_129 : ∀ e ∈ pg129, okb 129 e = true := by
  intro q hq
  obtain ⟨i, hi⟩ := List.getElem?_of_mem hq
  by_cases h0 : i < 60
  · exact ok_129_0 q (List.mem_of_getElem? (i := i - 0) (by rw [List.getElem?_take, if_pos (by omega), List.getElem?_drop, show 0 + (i - 0) = i by omega]; exact hi))
  by_cases h60 : i < 120
  · exact ok_129_60 q (List.mem_of_getElem? (i := i - 60) (by rw [List.getElem?_take, if_pos (by omega), List.getElem?_drop, show 60 + (i - 60) = i by omega]; exact hi))
  exact absurd (List.getElem?_eq_some_iff.mp hi).1 (by rw [show pg129.length = 62 from rfl]; omega)
theorem ok_130_0 : ∀ e ∈ (pg130.drop 0).take 60, okb 130 e = true := by decide +kernel
theorem ok_130 : ∀ e ∈ pg130, okb 130 e = true := fun e h => ok_130_0 e (by rw [List.drop_zero, List.take_of_length_le (by decide)]; exact h)
theorem ok_131_0 : ∀ e ∈ (pg131.drop 0).take 60, okb 131 e = true := by decide +kernel
theorem ok_131 : ∀ e ∈ pg131, okb 131 e = true := fun e h => ok_131_0 e (by rw [List.drop_zero, List.take_of_length_le (by decide)]; exact h)
theorem ok_132_0 : ∀ e ∈ (pg132.drop 0).take 60, okb 132 e = true := by decide +kernel
theorem ok_132 : ∀ e ∈ pg132, okb 132 e = true := fun e h => ok_132_0 e (by rw [List.drop_zero, List.take_of_length_le (by decide)]; exact h)
theorem ok_133_0 : ∀ e ∈ (pg133.drop 0).take 60, okb 133 e = true := by decide +kernel
theorem ok_133 : ∀ e ∈ pg133, okb 133 e = true := fun e h => ok_133_0 e (by rw [List.drop_zero, List.take_of_length_le (by decide)]; exact h)
theorem ok_134_0 : ∀ e ∈ (pg134.drop 0).take 60, okb 134 e = true := by decide +kernel
theorem ok_134 : ∀ e ∈ pg134, okb 134 e = true := fun e h => ok_134_0 e (by rw [List.drop_zero, List.take_of_length_le (by decide)]; exact h)
theorem ok_135_0 : ∀ e ∈ (pg135.drop 0).take 60, okb 135 e = true := by decide +kernel
theorem ok_135 : ∀ e ∈ pg135, okb 135 e = true := fun e h => ok_135_0 e (by rw [List.drop_zero, List.take_of_length_le (by decide)]; exact h)
theorem ok_136_0 : ∀ e ∈ (pg136.drop 0).take 60, okb 136 e = true := by decide +kernel
theorem ok_136 : ∀ e ∈ pg136, okb 136 e = true := fun e h => ok_136_0 e (by rw [List.drop_zero, List.take_of_length_le (by decide)]; exact h)
theorem ok_137_0 : ∀ e ∈ (pg137.drop 0).take 60, okb 137 e = true := by decide +kernel
theorem ok_137 : ∀ e ∈ pg137, okb 137 e = true := fun e h => ok_137_0 e (by rw [List.drop_zero, List.take_of_length_le (by decide)]; exact h)
theorem ok_138_0 : ∀ e ∈ (pg138.drop 0).take 60, okb 138 e = true := by decide +kernel
theorem ok_138_60 : ∀ e ∈ (pg138.drop 60).take 60, okb 138 e = true := by decide +kernel
set_option maxRecDepth 100000 in
theorem ok_138 : ∀ e ∈ pg138, okb 138 e = true := by
  intro q hq
  obtain ⟨i, hi⟩ := List.getElem?_of_mem hq
  by_cases h0 : i < 60
  · exact ok_138_0 q (List.mem_of_getElem? (i := i - 0) (by rw [List.getElem?_take, if_pos (by omega), List.getElem?_drop, show 0 + (i - 0) = i by omega]; exact hi))
  by_cases h60 : i < 120
  · exact ok_138_60 q (List.mem_of_getElem? (i := i - 60) (by rw [List.getElem?_take, if_pos (by omega), List.getElem?_drop, show 60 + (i - 60) = i by omega]; exact hi))
  exact absurd (List.getElem?_eq_some_iff.mp hi).1 (by rw [show pg138.length = 81 from rfl]; omega)
theorem ok_139_0 : ∀ e ∈ (pg139.drop 0).take 60, okb 139 e = true := by decide +kernel
theorem ok_139 : ∀ e ∈ pg139, okb 139 e = true := fun e h => ok_139_0 e (by rw [List.drop_zero, List.take_of_length_le (by decide)]; exact h)
theorem ok_140_0 : ∀ e ∈ (pg140.drop 0).take 60, okb 140 e = true := by decide +kernel
theorem ok_140 : ∀ e ∈ pg140, okb 140 e = true := fun e h => ok_140_0 e (by rw [List.drop_zero, List.take_of_length_le (by decide)]; exact h)
theorem ok_141_0 : ∀ e ∈ (pg141.drop 0).take 60, okb 141 e = true := by decide +kernel
theorem ok_141 : ∀ e ∈ pg141, okb 141 e = true := fun e h => ok_141_0 e (by rw [List.drop_zero, List.take_of_length_le (by decide)]; exact h)
theorem ok_142_0 : ∀ e ∈ (pg142.drop 0).take 60, okb 142 e = true := by decide +kernel
theorem ok_142 : ∀ e ∈ pg142, okb 142 e = true := fun e h => ok_142_0 e (by rw [List.drop_zero, List.take_of_length_le (by decide)]; exact h)
theorem ok_143_0 : ∀ e ∈ (pg143.drop 0).take 60, okb 143 e = true := by decide +kernel
theorem ok_143 : ∀ e ∈ pg143, okb 143 e = true := fun e h => ok_143_0 e (by rw [List.drop_zero, List.take_of_length_le (by decide)]; exact h)
theorem ok_144_0 : ∀ e ∈ (pg144.drop 0).take 60, okb 144 e = true := by decide +kernel
theorem ok_144 : ∀ e ∈ pg144, okb 144 e = true := fun e h => ok_144_0 e (by rw [List.drop_zero, List.take_of_length_le (by decide)]; exact h)
