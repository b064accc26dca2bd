/-! ===== the small machine told of the great one: definitions, and a row for each kind of cell ===== -/
def GW : List Cond := lw_tbl.filter goodWord
theorem gw_of {j : Nat} {w : Cond} (h : lw_tbl[j]? = some w) (hg : goodWord w = true) : w ∈ GW := List.mem_filter.mpr ⟨List.mem_of_getElem? h, hg⟩
theorem gw_good {w : Cond} (h : w ∈ GW) : (w.onTables && w.keeps) = true ∨ ∃ ty, w = .arrayClass ty := good_of_word (List.mem_filter.mp h).2
def isNest : Cond → Bool
  | .fieldLinkNest .. => true
  | .methodLinkNest .. => true
  | _ => false
def NW : List Cond := lw_tbl.filter isNest
/-- what lies outside: the script, the texts -/
def extc (L : Nat) (xs : Nat → Int32) (a : Nat) : MCQ :=
  if a = 2000000 then .inl (6, L, .inl xs) else if 1000000 ≤ a ∧ a < 1000025 then .inl (7, (txts.getD (a - 1000000) []).length, .inl (fun j => (txts.getD (a - 1000000) []).getD j 0)) else .inr (99, [])
/-- where the cells begin, the script, the texts, the arrays' classes -/
abbrev GP : Type := Nat × Nat × (Nat → Nat) × (Nat → ClassId)
def adr (G : GP) (a : Nat) : Nat := if a < 1000000 then G.1 + a else if a = 2000000 then G.2.1 else G.2.2.1 (a - 1000000)
def cv (G : GP) : Value → Value
  | .ref a => .ref (adr G a)
  | .int v => .int v
  | .long v => .long v
  | .float v => .float v
  | .double v => .double v
  | .null => .null
  | .retAddr v => .retAddr v
def cct (G : GP) (c : (Nat → Int32) ⊕ (Nat → Int64) ⊕ (Nat → UInt32) ⊕ (Nat → UInt64) ⊕ (Nat → Option Nat)) : (Nat → Int32) ⊕ (Nat → Int64) ⊕ (Nat → UInt32) ⊕ (Nat → UInt64) ⊕ (Nat → Option Nat) := match c with
  | .inl f => .inl f
  | .inr (.inl f) => .inr (.inl f)
  | .inr (.inr (.inl f)) => .inr (.inr (.inl f))
  | .inr (.inr (.inr (.inl f))) => .inr (.inr (.inr (.inl f)))
  | .inr (.inr (.inr (.inr f))) => .inr (.inr (.inr (.inr (fun j => (f j).map (adr G)))))
def ce (G : GP) (c : MCQ) : va_E := match c with
  | .inl q => .inl (G.2.2.2 q.1, q.2.1, cct G q.2.2)
  | .inr o => .inr (o.1, o.2.map (cv G))
def wd (G : GP) (σ : Mem) : va_W := (List.range σ.1).map (fun k => (G.1 + k, ce G (σ.2.2 k)))
def cvl (G : GP) (q : Nat × Value) : Nat × Value := (q.1, cv G q.2)
theorem wd_at {G : GP} {σ : Mem} {k : Nat} (h : k < σ.1) : (wd G σ)[k]? = some (G.1 + k, ce G (σ.2.2 k)) := by
  simp [wd, h]
theorem wd_len (G : GP) (σ : Mem) : (wd G σ).length = σ.1 := by simp [wd]
theorem wd_set {G : GP} {σ : Mem} {a : Nat} (h : a < σ.1) (c : MCQ) : wd G (setC σ a c) = (wd G σ).set a (G.1 + a, ce G c) := by
  apply List.ext_getElem?
  intro k
  by_cases hk : k < σ.1
  · rw [wd_at (show k < (setC σ a c).1 from hk), List.getElem?_set]
    by_cases e : a = k
    · subst e
      simp [wd_len, h, setC, va_up]
    · rw [if_neg e, wd_at hk]
      simp [setC, va_up, Ne.symm e]
  · rw [List.getElem?_eq_none (by rw [wd_len]; show σ.1 ≤ k; omega), List.getElem?_eq_none (by rw [List.length_set, wd_len]; omega)]
theorem wd_add (G : GP) (σ : Mem) (n : Nat) (c : MCQ) : wd G (addC σ n c) = wd G σ ++ [(G.1 + σ.1, ce G c)] := by
  show (List.range (σ.1 + 1)).map _ = _
  rw [List.range_succ, List.map_append]
  congr 1
  · apply List.map_congr_left
    intro k hk
    have : k ≠ σ.1 := Nat.ne_of_lt (List.mem_range.mp hk)
    simp [addC, va_up, this]
  · simp [addC, va_up]
theorem wd_D (G : GP) (σ : Mem) : va_D (fun q => G.1 ≤ q) (wd G σ) := by
  have key : ∀ (k : Nat) (q : Nat × va_E), (wd G σ)[k]? = some q → q.1 = G.1 + k := by
    intro k q hk
    have hl : k < σ.1 := by have := (List.getElem?_eq_some_iff.mp hk).1; rwa [wd_len] at this
    rw [wd_at hl] at hk
    cases hk
    rfl
  refine ⟨fun i j p q hi hj e => ?_, fun k q hk => ?_⟩
  · have h1 := key i p hi
    have h2 := key j q hj
    omega
  · have h1 := key k q hk
    show G.1 ≤ q.1
    omega
def tysF (G : GP) : List (ClassId × FieldType) := [(G.2.2.2 0, .int), (G.2.2.2 1, .byte), (G.2.2.2 2, .boolean), (G.2.2.2 3, .long), (G.2.2.2 4, .object RX5), (G.2.2.2 5, .object RX1)]
def wfM (L : Nat) (xs : Nat → Int32) (σ : Mem) : Prop := σ.1 ≤ 1000000 ∧ (∀ a, σ.1 ≤ a → σ.2.2 a = extc L xs a) ∧ ∀ a q, a < σ.1 → σ.2.2 a = .inl q → q.1 < 6
def txLen : List Nat := txts.map (fun l => l.length)
/-- what stays so: the classes, the nest's links, the script, the texts, the one static -/
def XX (G : GP) (D : va_G) (L : Nat) (xs : Nat → Int32) (adV : Nat → Nat) (U : State) : Prop :=
  va_K D classes (tysF G) U ∧ (∀ w ∈ NW, va_Nw w U) ∧ va_X G.2.1 L xs U U.heap ∧ G.2.1 < G.1 ∧ vk_S 25 txLen txts G.2.2.1 adV (fun q => G.1 ≤ q) U U.heap ∧
  (∀ j, j < 25 → vk_R RX6 (strI.getD j 0) (strT.getD j "") (G.2.2.1 j) U) ∧ va_Z "java/lang/String" "COMPACT_STRINGS" "Z" (.int 1) (fun q => G.1 ≤ q) U U.heap ∧ va_AO RX5 U ∧ va_AO RX1 U ∧ va_Zq "jdk/internal/util/Preconditions" "SIOOBE_FORMATTER" "Ljava/util/function/BiFunction;" (fun q => G.1 ≤ q) U U.heap
theorem XX.go {G : GP} {D : va_G} {L : Nat} {xs : Nat → Int32} {adV : Nat → Nat} {s U : State} {locs : List Loc} (h : XX G D L xs adV s) (hW : s.WarmedH U.vm) (hS : va_S (fun q => G.1 ≤ q) s.heap U.heap locs) : XX G D L xs adV U := by
  obtain ⟨h1, h2, h3, h4, h5, h6, h7, h8, h9, h10⟩ := h
  refine ⟨h1.moved hW.alike, fun w hw => ?_, ?_, h4, (h5.moved hW.alike).kept hS.2.1, fun j hj => (h6 j hj).warm hW, (h7.moved hW.alike).kept hS.2.1, h8.moved hW.alike, h9.moved hW.alike, (h10.moved hW.alike).kept hS.2.1⟩
  · have hn := (List.mem_filter.mp hw).2
    have h9 := h2 w hw
    cases w <;> first | (simp [isNest] at hn; done) | exact va_Nw.warmF hW h9 | exact va_Nw.warmM hW h9
  · have hlt : G.2.1 < s.heap.size := by
      obtain ⟨scr, hc, -⟩ := h3
      exact (Array.getElem?_eq_some_iff.mp hc).1
    exact (h3.moved hW.alike).kept (hS.2.1 _ hlt (by show ¬ G.1 ≤ G.2.1; omega))
theorem XX.same {G : GP} {D : va_G} {L : Nat} {xs : Nat → Int32} {adV : Nat → Nat} {s U : State} (h : XX G D L xs adV s) (hv : U.vm = s.vm) (hh : U.heap = s.heap) : XX G D L xs adV U := by
  obtain ⟨h1, h2, h3, h4, h5, h6, h7, h8, h9, h10⟩ := h
  have hal : s.vm.Alike U.vm := by rw [hv]; exact Vm.Alike.refl _
  refine ⟨h1.moved hal, fun w hw => ?_, by rw [hh]; exact h3.moved hal, h4, by rw [hh]; exact h5.moved hal, fun j hj => (h6 j hj).same hv, by rw [hh]; exact h7.moved hal, h8.moved hal, h9.moved hal, by rw [hh]; exact h10.moved hal⟩
  have hn := (List.mem_filter.mp hw).2
  have h9 := h2 w hw
  cases w <;> first | (simp [isNest] at hn; done) | exact va_Nw.same rfl hv.symm h9
/-- the small memory is in the heap -/
def AtQ (G : GP) (D : va_G) (L : Nat) (xs : Nat → Int32) (s : State) (σ : Mem) (H : Heap) (locs : List Loc) : Prop :=
  va_P D classes (wd G σ) H ∧ va_S (fun q => G.1 ≤ q) s.heap H locs ∧ wfM L xs σ
theorem ext_99 {L : Nat} {xs : Nat → Int32} {a ci : Nat} {fs : List Value} (h : extc L xs a = .inr (ci, fs)) : ci = 99 := by
  unfold extc at h
  split at h
  · cases h
  · split at h
    · cases h
    · cases h; rfl
theorem ext_t {L : Nat} {xs : Nat → Int32} {a : Nat} {q : Nat × vp_A} (h : extc L xs a = .inl q) : (a = 2000000 ∧ q = (6, L, .inl xs)) ∨ ((1000000 ≤ a ∧ a < 1000025) ∧ q = (7, (txts.getD (a - 1000000) []).length, .inl (fun j => (txts.getD (a - 1000000) []).getD j 0))) := by
  unfold extc at h
  split at h
  · cases h; exact Or.inl ⟨by assumption, rfl⟩
  · split at h
    · cases h; exact Or.inr ⟨by assumption, rfl⟩
    · cases h
theorem wf_obj {L : Nat} {xs : Nat → Int32} {σ : Mem} {a ci : Nat} {fs : List Value} (h : wfM L xs σ) (e : σ.2.2 a = .inr (ci, fs)) (hc : ci < 10) : a < σ.1 := by
  rcases Nat.lt_or_ge a σ.1 with q | q
  · exact q
  · rw [h.2.1 a q] at e
    have := ext_99 e
    omega
theorem wf_arr {L : Nat} {xs : Nat → Int32} {σ : Mem} {a t : Nat} {x : vp_A} (h : wfM L xs σ) (e : σ.2.2 a = .inl (t, x)) (hc : t < 6) : a < σ.1 := by
  rcases Nat.lt_or_ge a σ.1 with q | q
  · exact q
  · rw [h.2.1 a q] at e
    rcases ext_t e with ⟨-, h1⟩ | ⟨-, h1⟩ <;> (cases h1; omega)
theorem adr_lt {G : GP} {σ : Mem} {L : Nat} {xs : Nat → Int32} {a : Nat} (h : wfM L xs σ) (ha : a < σ.1) : adr G a = G.1 + a := by
  unfold adr
  rw [if_pos (Nat.lt_of_lt_of_le ha h.1)]
theorem wf_set {L : Nat} {xs : Nat → Int32} {σ : Mem} {a : Nat} {c : MCQ} (h : wfM L xs σ) (ha : a < σ.1) (hc : ∀ q, c = .inl q → q.1 < 6) : wfM L xs (setC σ a c) := by
  refine ⟨h.1, fun k hk => ?_, fun k q hk hq => ?_⟩
  · have hk : σ.1 ≤ k := hk
    show va_up σ.2.2 a c k = _
    rw [va_up, if_neg (by omega)]
    exact h.2.1 k hk
  · have hk : k < σ.1 := hk
    have hq : va_up σ.2.2 a c k = .inl q := hq
    unfold va_up at hq
    by_cases e : k = a
    · rw [if_pos e] at hq; exact hc q hq
    · rw [if_neg e] at hq; exact h.2.2 k q hk hq
theorem wf_add {L : Nat} {xs : Nat → Int32} {σ : Mem} {n : Nat} {c : MCQ} (h : wfM L xs σ) (ha : σ.1 + 1 ≤ 1000000) (hc : ∀ q, c = .inl q → q.1 < 6) : wfM L xs (addC σ n c) := by
  refine ⟨ha, fun k hk => ?_, fun k q hk hq => ?_⟩
  · have hk : σ.1 + 1 ≤ k := hk
    show va_up σ.2.2 σ.1 c k = _
    rw [va_up, if_neg (by omega)]
    exact h.2.1 k (by omega)
  · have hk : k < σ.1 + 1 := hk
    have hq : va_up σ.2.2 σ.1 c k = .inl q := hq
    unfold va_up at hq
    by_cases e : k = σ.1
    · rw [if_pos e] at hq; exact hc q hq
    · rw [if_neg e] at hq; exact h.2.2 k q (by omega) hq
/-- the script, a text: outside -/
theorem wf_out {L : Nat} {xs : Nat → Int32} {σ : Mem} {a t : Nat} {x : vp_A} (h : wfM L xs σ) (e : σ.2.2 a = .inl (t, x)) (ht : 6 ≤ t) : extc L xs a = .inl (t, x) := by
  rcases Nat.lt_or_ge a σ.1 with q | q
  · have := h.2.2 a _ q e
    omega
  · rw [← h.2.1 a q]; exact e
theorem gV_some {σ : Mem} {ci a k : Nat} {v : Value} (h : gV σ ci a k = some v) : ∃ fs, σ.2.2 a = .inr (ci, fs) ∧ fs[k]? = some v := by
  unfold gV at h
  split at h
  · cases h
  · rename_i o ho
    obtain ⟨c, fs⟩ := o
    cases e : (c == ci) with
    | false => simp [e] at h
    | true =>
      have : c = ci := by simpa using e
      subst this
      simp at h
      exact ⟨fs, ho, h⟩
theorem pF_some {σ τ : Mem} {ci a k : Nat} {v : Value} (h : pF σ ci a k v = some τ) : ∃ fs, σ.2.2 a = .inr (ci, fs) ∧ k < fs.length ∧ τ = setC σ a (.inr (ci, fs.set k v)) := by
  unfold pF at h
  split at h
  · cases h
  · rename_i o ho
    obtain ⟨c, fs⟩ := o
    cases e : (c == ci && Nat.blt k fs.length) with
    | false => simp [e] at h
    | true =>
      simp only [Bool.and_eq_true, beq_iff_eq] at e
      obtain ⟨e1, e2⟩ := e
      subst e1
      have e3 : k < fs.length := by simpa [Nat.blt_eq] using e2
      simp [e2] at h
      exact ⟨fs, ho, e3, h.symm⟩
theorem inb_in {i : Int32} {n : Nat} (h : inb i n = true) : vp_in i n := by
  unfold inb at h
  unfold vp_in
  simpa using h
