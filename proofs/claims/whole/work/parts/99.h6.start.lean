/-! ===== the start of both (printed by wip/whole/genh6.py) ===== -/
theorem zlt_0 (P : Nat → Prop) : ∀ a, a < 0 → P a := fun a h => absurd h (Nat.not_lt_zero a)
theorem zlt_s {P : Nat → Prop} {n : Nat} (h : ∀ a, a < n → P a) (h1 : P n) : ∀ a, a < n + 1 → P a := fun a ha => by
  rcases Nat.lt_or_ge a n with e | e
  · exact h a e
  · have : a = n := by omega
    rw [this]; exact h1
def dC : MCQ := .inr (99, [])
def zcl : List MCQ := [.inr (8, [.ref 1, .ref 14, .ref 27, .null, .ref 28, .ref 30, .ref 32, .int 0, .ref 33, .ref 38, .ref 40, .ref 45, .ref 51, .int 0, .int 0, .int (-1), .int (-1), .int 0, .int 0, .ref 57]), .inr (1, [.int 0, .ref 2, .int 0, .ref 3, .ref 4, .ref 5, .ref 6, .ref 7, .ref 8, .ref 9, .int 0, .ref 10, .ref 11, .ref 12, .int 0, .ref 13, .int (-1)]), ARt 0 6, ARt 0 10, ARt 0 10, ARt 0 10, ARt 0 10, ARt 0 10, ARt 0 10, ARt 0 10, ARt 0 10, ARt 0 10, .inl (0, 3, .inl zw_1), ARt 4 6, .inr (1, [.int 0, .ref 15, .int 0, .ref 16, .ref 17, .ref 18, .ref 19, .ref 20, .ref 21, .ref 22, .int 0, .ref 23, .ref 24, .ref 25, .int 0, .ref 26, .int (-1)]), ARt 0 6, ARt 0 10, ARt 0 10, ARt 0 10, ARt 0 10, ARt 0 10, ARt 0 10, ARt 0 10, ARt 0 10, ARt 0 10, .inl (0, 3, .inl zw_2), ARt 4 6, ARt 5 2, .inr (3, [.ref 29, .int 0, .int 0]), ARt 0 119, .inr (3, [.ref 31, .int 0, .int 0]), ARt 0 119, ARt 0 400, .inr (6, [.ref 34, .ref 37, .int 0, .int 0, .int 0, .int 0, .int 0, .int 0, .int 0, .int 0]), .inr (5, [.int 0, .int 0, .ref 35, .ref 36]), ARt 0 72, ARt 0 400, ARt 0 0, .inr (7, [.ref 39, .null, .int 0, .int (-1), .int 0, .int (-1)]), ARt 0 64, .inr (4, [.ref 41, .ref 42, .ref 43, .ref 44, .int 0]), ARt 0 10, ARt 0 10, ARt 0 10, ARt 0 45, .inr (2, [.ref 46, .ref 47, .ref 48, .ref 49, .ref 50, .int 0]), ARt 0 6, ARt 0 6, ARt 0 6, ARt 0 6, ARt 0 6, .inr (0, [.ref 52, .ref 53, .ref 54, .ref 55, .ref 56, .int 0, .int 0]), ARt 0 7, ARt 0 7, ARt 0 7, ARt 0 10, ARt 0 10, ARt 0 5, .inr (9, [.int 0, .ref 59, .ref 60, .ref 61, .ref 62, .ref 63, .int 0, .ref 64, .int 0, .int 0, .int 0, .ref 65, .ref 66, .int 0, .int (-1), .ref 67, .ref 68, .ref 69, .int 0, .int 0, .int 0, .int 0, .int 0, .int 0, .int 0, .int 0, .ref 70, .int 0, .int 0, .ref 71, .ref 72, .int 0, .ref 73, .ref 74, .ref 75, .ref 76, .ref 77, .ref 78, .int 0, .ref 79, .ref 80, .ref 81, .int 0, .int (-1), .int 0, .int 0, .int 0, .int 0, .int 0, .ref 82, .ref 83, .ref 84, .ref 85, .int (-1), .int 0, .int 0]), ARt 0 7, .inl (0, 5711, .inl zw_126), ARt 0 11422, ARt 2 2, ARt 0 333, .inl (1, 122, .inl zw_124), ARt 1 400, ARt 0 5, ARt 0 401, ARt 0 401, ARt 0 401, ARt 0 9, ARt 0 608, ARt 0 608, ARt 2 100, ARt 1 11264, ARt 0 6, ARt 0 6, ARt 0 6, ARt 0 6, ARt 0 6, ARt 0 7, ARt 0 7, ARt 3 2, ARt 0 6, ARt 0 10, ARt 0 10]
def zsl : List MCQ := [.inr (8, [.ref 1, .ref 14, .ref 27, .null, .ref 28, .ref 30, .ref 32, .int 0, .ref 33, .ref 38, .ref 40, .ref 45, .ref 51, .int 0, .int 0, .int (-1), .int (-1), .int 0, .int 0, .ref 57]), .inr (1, [.int 0, .ref 2, .int 0, .ref 3, .ref 4, .ref 5, .ref 6, .ref 7, .ref 8, .ref 9, .int 0, .ref 10, .ref 11, .ref 12, .int 0, .ref 13, .int (-1)]), ARt 0 6, ARt 0 10, ARt 0 10, ARt 0 10, ARt 0 10, ARt 0 10, ARt 0 10, ARt 0 10, ARt 0 10, ARt 0 10, .inl (0, 3, .inl zw_1), ARt 4 6, .inr (1, [.int 0, .ref 15, .int 0, .ref 16, .ref 17, .ref 18, .ref 19, .ref 20, .ref 21, .ref 22, .int 0, .ref 23, .ref 24, .ref 25, .int 0, .ref 26, .int (-1)]), ARt 0 6, ARt 0 10, ARt 0 10, ARt 0 10, ARt 0 10, ARt 0 10, ARt 0 10, ARt 0 10, ARt 0 10, ARt 0 10, .inl (0, 3, .inl zw_2), ARt 4 6, ARt 5 2, .inr (3, [.ref 29, .int 0, .int 0]), ARt 0 119, .inr (3, [.ref 31, .int 0, .int 0]), ARt 0 119, ARt 0 400, .inr (6, [.ref 34, .null, .int 0, .int 0, .int 0, .int 0, .int 0, .int 0, .int 0, .int 0]), .inr (5, [.int 0, .int 0, .ref 35, .ref 36]), ARt 0 72, ARt 0 400, ARt 0 0, .inr (7, [.ref 39, .null, .int 0, .int (-1), .int 0, .int (-1)]), ARt 0 64, .inr (4, [.ref 41, .ref 42, .ref 43, .ref 44, .int 0]), ARt 0 10, ARt 0 10, ARt 0 10, ARt 0 45, .inr (2, [.ref 46, .ref 47, .ref 48, .ref 49, .ref 50, .int 0]), ARt 0 6, ARt 0 6, ARt 0 6, ARt 0 6, ARt 0 6, .inr (0, [.ref 52, .ref 53, .ref 54, .ref 55, .ref 56, .int 0, .int 0]), ARt 0 7, ARt 0 7, ARt 0 7, ARt 0 10, ARt 0 10, ARt 0 5, .inr (9, [.int 0, .ref 59, .ref 60, .ref 61, .ref 62, .ref 63, .int 0, .ref 64, .int 0, .int 0, .int 0, .ref 65, .ref 66, .int 0, .int (-1), .ref 67, .ref 68, .ref 69, .int 0, .int 0, .int 0, .int 0, .int 0, .int 0, .int 0, .int 0, .ref 70, .int 0, .int 0, .ref 71, .ref 72, .int 0, .ref 73, .ref 74, .ref 75, .ref 76, .ref 77, .ref 78, .int 0, .ref 79, .ref 80, .ref 81, .int 0, .int (-1), .int 0, .int 0, .int 0, .int 0, .int 0, .ref 82, .ref 83, .ref 84, .ref 85, .int (-1), .int 0, .int 0]), ARt 0 7, .inl (0, 5711, .inl zw_126), ARt 0 11422, ARt 2 2, ARt 0 333, .inl (1, 122, .inl zw_124), ARt 1 400, ARt 0 5, ARt 0 401, ARt 0 401, ARt 0 401, ARt 0 9, ARt 0 608, ARt 0 608, ARt 2 100, ARt 1 11264, ARt 0 6, ARt 0 6, ARt 0 6, ARt 0 6, ARt 0 6, ARt 0 7, ARt 0 7, ARt 3 2, ARt 0 6, ARt 0 10, ARt 0 10]
def rdC (c : MCQ) (k : Nat) : Int32 := match c with
  | .inr o => (match o.2[k]? with | some (.int v) => v | _ => 0)
  | .inl (_, _, .inl g) => g k
  | _ => 0
def zF (a : Nat) : Nat → Int32 := if a = 33 then upd (rdC (zcl.getD 33 dC)) 1 (wI 37) else rdC (zcl.getD a dC)
def zZ (S : Nat) (xs : Nat → Int32) : Mem := (86, 33557, fun a => if a < 86 then zsl.getD a dC else extc S xs a)
set_option maxRecDepth 20000 in
theorem z_all (E : Nat → MCQ) : ∀ a, a < 86 → (zm_305 E).2.2 a = zcl.getD a dC :=
  (zlt_s (zlt_s (zlt_s (zlt_s (zlt_s (zlt_s (zlt_s (zlt_s (zlt_s (zlt_s (zlt_s (zlt_s (zlt_s (zlt_s (zlt_s (zlt_s (zlt_s (zlt_s (zlt_s (zlt_s (zlt_s (zlt_s (zlt_s (zlt_s (zlt_s (zlt_s (zlt_s (zlt_s (zlt_s (zlt_s (zlt_s (zlt_s (zlt_s (zlt_s (zlt_s (zlt_s (zlt_s (zlt_s (zlt_s (zlt_s (zlt_s (zlt_s (zlt_s (zlt_s (zlt_s (zlt_s (zlt_s (zlt_s (zlt_s (zlt_s (zlt_s (zlt_s (zlt_s (zlt_s (zlt_s (zlt_s (zlt_s (zlt_s (zlt_s (zlt_s (zlt_s (zlt_s (zlt_s (zlt_s (zlt_s (zlt_s (zlt_s (zlt_s (zlt_s (zlt_s (zlt_s (zlt_s (zlt_s (zlt_s (zlt_s (zlt_s (zlt_s (zlt_s (zlt_s (zlt_s (zlt_s (zlt_s (zlt_s (zlt_s (zlt_s (zlt_s (zlt_0 (fun a => (zm_305 E).2.2 a = zcl.getD a dC))
  (zc_0 E))
  (zc_1 E))
  (zc_2 E))
  (zc_3 E))
  (zc_4 E))
  (zc_5 E))
  (zc_6 E))
  (zc_7 E))
  (zc_8 E))
  (zc_9 E))
  (zc_10 E))
  (zc_11 E))
  (zc_12 E))
  (zc_13 E))
  (zc_14 E))
  (zc_15 E))
  (zc_16 E))
  (zc_17 E))
  (zc_18 E))
  (zc_19 E))
  (zc_20 E))
  (zc_21 E))
  (zc_22 E))
  (zc_23 E))
  (zc_24 E))
  (zc_25 E))
  (zc_26 E))
  (zc_27 E))
  (zc_28 E))
  (zc_29 E))
  (zc_30 E))
  (zc_31 E))
  (zc_32 E))
  (zc_33 E))
  (zc_34 E))
  (zc_35 E))
  (zc_36 E))
  (zc_37 E))
  (zc_38 E))
  (zc_39 E))
  (zc_40 E))
  (zc_41 E))
  (zc_42 E))
  (zc_43 E))
  (zc_44 E))
  (zc_45 E))
  (zc_46 E))
  (zc_47 E))
  (zc_48 E))
  (zc_49 E))
  (zc_50 E))
  (zc_51 E))
  (zc_52 E))
  (zc_53 E))
  (zc_54 E))
  (zc_55 E))
  (zc_56 E))
  (zc_57 E))
  (zc_58 E))
  (zc_59 E))
  (zc_60 E))
  (zc_61 E))
  (zc_62 E))
  (zc_63 E))
  (zc_64 E))
  (zc_65 E))
  (zc_66 E))
  (zc_67 E))
  (zc_68 E))
  (zc_69 E))
  (zc_70 E))
  (zc_71 E))
  (zc_72 E))
  (zc_73 E))
  (zc_74 E))
  (zc_75 E))
  (zc_76 E))
  (zc_77 E))
  (zc_78 E))
  (zc_79 E))
  (zc_80 E))
  (zc_81 E))
  (zc_82 E))
  (zc_83 E))
  (zc_84 E))
  (zc_85 E))
set_option maxRecDepth 20000 in
theorem z_mk : ∀ a, a < 86 → mkC (zF a) (zsl.getD a dC) = zcl.getD a dC :=
  (zlt_s (zlt_s (zlt_s (zlt_s (zlt_s (zlt_s (zlt_s (zlt_s (zlt_s (zlt_s (zlt_s (zlt_s (zlt_s (zlt_s (zlt_s (zlt_s (zlt_s (zlt_s (zlt_s (zlt_s (zlt_s (zlt_s (zlt_s (zlt_s (zlt_s (zlt_s (zlt_s (zlt_s (zlt_s (zlt_s (zlt_s (zlt_s (zlt_s (zlt_s (zlt_s (zlt_s (zlt_s (zlt_s (zlt_s (zlt_s (zlt_s (zlt_s (zlt_s (zlt_s (zlt_s (zlt_s (zlt_s (zlt_s (zlt_s (zlt_s (zlt_s (zlt_s (zlt_s (zlt_s (zlt_s (zlt_s (zlt_s (zlt_s (zlt_s (zlt_s (zlt_s (zlt_s (zlt_s (zlt_s (zlt_s (zlt_s (zlt_s (zlt_s (zlt_s (zlt_s (zlt_s (zlt_s (zlt_s (zlt_s (zlt_s (zlt_s (zlt_s (zlt_s (zlt_s (zlt_s (zlt_s (zlt_s (zlt_s (zlt_s (zlt_s (zlt_s (zlt_0 (fun a => mkC (zF a) (zsl.getD a dC) = zcl.getD a dC))
  (rfl))
  (rfl))
  (rfl))
  (rfl))
  (rfl))
  (rfl))
  (rfl))
  (rfl))
  (rfl))
  (rfl))
  (rfl))
  (rfl))
  (rfl))
  (rfl))
  (rfl))
  (rfl))
  (rfl))
  (rfl))
  (rfl))
  (rfl))
  (rfl))
  (rfl))
  (rfl))
  (rfl))
  (rfl))
  (rfl))
  (rfl))
  (rfl))
  (rfl))
  (rfl))
  (rfl))
  (rfl))
  (rfl))
  (rfl))
  (rfl))
  (rfl))
  (rfl))
  (rfl))
  (rfl))
  (rfl))
  (rfl))
  (rfl))
  (rfl))
  (rfl))
  (rfl))
  (rfl))
  (rfl))
  (rfl))
  (rfl))
  (rfl))
  (rfl))
  (rfl))
  (rfl))
  (rfl))
  (rfl))
  (rfl))
  (rfl))
  (rfl))
  (rfl))
  (rfl))
  (rfl))
  (rfl))
  (rfl))
  (rfl))
  (rfl))
  (rfl))
  (rfl))
  (rfl))
  (rfl))
  (rfl))
  (rfl))
  (rfl))
  (rfl))
  (rfl))
  (rfl))
  (rfl))
  (rfl))
  (rfl))
  (rfl))
  (rfl))
  (rfl))
  (rfl))
  (rfl))
  (rfl))
  (rfl))
  (rfl))
theorem mkC_6 {r g : Nat → Int32} {n : Nat} : mkC r (.inl (6, n, .inl g)) = .inl (6, n, .inl g) := rfl
theorem mkC_7 {r g : Nat → Int32} {n : Nat} : mkC r (.inl (7, n, .inl g)) = .inl (7, n, .inl g) := rfl
theorem mkC_9 {r : Nat → Int32} : mkC r (.inr (99, [])) = .inr (99, []) := rfl
theorem mk_hi {S : Nat} {xs : Nat → Int32} {a : Nat} (r : Nat → Int32) : mkC r (extc S xs a) = extc S xs a := by
  unfold extc
  split
  · exact mkC_6
  · split
    · exact mkC_7
    · exact mkC_9
theorem z_eq (S : Nat) (xs : Nat → Int32) : zm_305 (extc S xs) = mkM zF (zZ S xs) := by
  have h1 := zf_1 (extc S xs)
  have h2 := zf_2 (extc S xs)
  have h3 := z_all (extc S xs)
  have h4 : ∀ a, 86 ≤ a → (zm_305 (extc S xs)).2.2 a = extc S xs a := fun a h => zo_305 _ h
  generalize zm_305 (extc S xs) = σ at h1 h2 h3 h4
  obtain ⟨s1, s2, s3⟩ := σ
  dsimp only at h1 h2 h3 h4
  subst h1 h2
  unfold mkM zZ
  dsimp only
  congr 2
  funext a
  rcases Nat.lt_or_ge a 86 with h | h
  · rw [h3 a h, if_pos h, z_mk a h]
  · rw [h4 a h, if_neg (by omega), mk_hi]
theorem z_ok : ∀ a, a < 86 → okCl (dsc.getD a (9, 9, 9, [])) (zsl.getD a dC) = true := by decide +kernel
theorem Sh_0 (S : Nat) (xs : Nat → Int32) : Sh (zZ S xs) := fun a h => by
  show okCl _ (if a < 86 then zsl.getD a dC else extc S xs a) = true
  rw [if_pos h]
  exact z_ok a h
theorem zW : ∀ j, j < 122 → zw_124 j = wI ((wTx WL).getD j 0) := by decide +kernel
theorem zK (j : Nat) (h : j ≠ 103) : zw_126 j = wI (iniN j) := by
  show upd zw_125 103 (-1) j = _
  rw [upd_ne _ _ _ h]
  show upd (fun _ => 0) 97 2 j = _
  unfold iniN
  by_cases e : j = 97
  · rw [e, upd_eq]; rfl
  · rw [upd_ne _ _ _ e, if_neg e]; rfl
def c0Q : Nat → Int32 := fun k => if k = 6 ∨ k = 7 then -1 else 0
theorem UV_0 (g : Nat → Nat × (Nat → Nat)) (N : Nat → Nat) : UV (0, g) N := fun i hi => absurd hi (Nat.not_lt_zero _)
theorem CK_0 : CK zF 1 iniN := by
  refine chF_CK (fun j hj k hk => ?_)
  rcases (show j = 0 ∨ j = 11 ∨ j = 1 ∨ j = 2 ∨ j = 3 ∨ j = 4 ∨ j = 5 ∨ j = 6 ∨ j = 7 ∨ j = 8 ∨ j = 9 ∨ j = 10 ∨ j = 12 by omega) with rfl | rfl | rfl | rfl | rfl | rfl | rfl | rfl | rfl | rfl | rfl | rfl | rfl
  · rcases hk rfl with rfl | rfl | rfl | rfl | rfl <;> rfl
  · show upd (fun _ => 0) 1 2 k = _
    unfold chF
    by_cases e : k = 1
    · rw [e, upd_eq]; rfl
    · rw [upd_ne _ _ _ e, if_neg (by omega), if_neg (by omega)]
  all_goals
    unfold chF
    rw [if_neg (by omega), if_neg (by omega)]
    rfl
theorem IY_0 (S : Nat) (xs : Nat → Int32) : IY S xs zF (zZ S xs) iniN (0, fun _ => (0, iniN)) (fun _ => none) (fun _ => 0) 0 c0Q := by
  have hz := Sh_0 S xs
  have hx : XT (zZ S xs) S xs := ⟨⟨show 86 ≤ 86 by decide, show 86 ≤ 100000 by decide⟩, fun a ha => if_neg (by have : 86 ≤ a := ha; omega)⟩
  have hk : KH zF (zZ S xs) 1 iniN := ⟨Ch_1 hz, CK_0, iniN_VK, fun i hi => absurd hi (Nat.not_lt_zero _), fun i hi => Or.inl rfl⟩
  have hs : S2 zF := ⟨0, -1, by decide, rfl, (show zF 38 3 = -1 from rfl).trans jl_m1, by decide, by decide⟩
  have hr : RI zF := ⟨0, -1, rfl, (show zF 38 5 = -1 from rfl).trans jl_m1, by decide, by decide, hs⟩
  have hu : UX zF (0, fun _ => (0, iniN)) iniN := UX_0 (o := 0) rfl (by decide) rfl _ _
  have hg : IG zF (zZ S xs) (fun _ => none) := ⟨fun _ => 0, fun k hk => by
    show rfC _ k = 0
    unfold rfC
    split
    · rfl
    · rfl, fun i j _ _ _ h => absurd rfl h⟩
  have ht : TP zF (fun _ => 0) 0 := ⟨rfl, Nat.zero_le _, fun _ => (by decide : (0 : Nat) < 256), fun k hk => absurd hk (Nat.not_lt_zero _)⟩
  have hc : CX zF c0Q := ⟨rfl, rfl, rfl, rfl, rfl, rfl, rfl, rfl, rfl⟩
  exact ⟨hz, hx, hk, hr, hu, UV_0 _ _, hg, ht, hc⟩
theorem IM_0 : IM zF iniN (0, fun _ => (0, iniN)) (fun _ => none) (fun _ => 0) 0 c0Q := by
  have hm : MK zF iniN := ⟨fun j _ h => zK j h, by
    show upd zw_125 103 (-1) 103 = _
    rw [upd_eq]
    rfl⟩
  have hh : MH zF iniN := ⟨hm, iniN_VK, fun i hi => absurd hi (Nat.not_lt_zero _), false, rfl⟩
  have hu : UM zF (0, fun _ => (0, iniN)) := ⟨Nat.zero_le _, rfl, fun i hi => absurd hi (Nat.not_lt_zero _)⟩
  have hw : WRD zF := fun j hj => zW j hj
  have hg : IGM zF (fun _ => none) := ⟨fun k hk => rfl, rfl⟩
  have hc : CM zF c0Q := ⟨rfl, rfl, rfl, rfl, rfl, rfl, rfl, rfl, rfl⟩
  exact ⟨hh, hu, hw, hg, ⟨rfl, fun k hk => absurd hk (Nat.not_lt_zero _)⟩, hc⟩
theorem CR_0 : CR iniN zF := Or.inl rfl
