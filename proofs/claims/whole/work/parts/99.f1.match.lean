/-! ===== match, in pure ===== -/
/-- how many in a stretch -/
def cn (P : Nat → Bool) : Nat → Nat → Nat
  | 0, _ => 0
  | c + 1, i => (if P i = true then 1 else 0) + cn P c (i + 1)
theorem cn_le {P Q : Nat → Bool} : ∀ c i, (∀ j, i ≤ j → j < i + c → P j = true → Q j = true) → cn P c i ≤ cn Q c i := by
  intro c
  induction c with
  | zero => intro i _; exact Nat.le_refl _
  | succ c ih =>
    intro i h
    have h1 := ih (i + 1) (fun j a b => h j (by omega) (by omega))
    rw [cn, cn]
    by_cases e : P i = true
    · rw [if_pos e, if_pos (h i (by omega) (by omega) e)]; omega
    · rw [if_neg e]; omega
theorem cn_lt {P Q : Nat → Bool} {s : Nat} (h1 : P s = false) (h2 : Q s = true) : ∀ c i, (∀ j, i ≤ j → j < i + c → P j = true → Q j = true) → i ≤ s → s < i + c → cn P c i + 1 ≤ cn Q c i := by
  intro c
  induction c with
  | zero => intro i _ _ _; omega
  | succ c ih =>
    intro i h hi hs
    rw [cn, cn]
    by_cases e : i = s
    · subst e
      have := cn_le (P := P) (Q := Q) c (i + 1) (fun j a b => h j (by omega) (by omega))
      rw [if_pos h2, h1, if_neg (by decide)]; omega
    · have := ih (i + 1) (fun j a b => h j (by omega) (by omega)) (by omega) (by omega)
      by_cases e : P i = true
      · rw [if_pos e, if_pos (h i (by omega) (by omega) e)]; omega
      · rw [if_neg e]; omega
theorem cn_max {P : Nat → Bool} : ∀ c i, cn P c i ≤ c := by
  intro c
  induction c with
  | zero => intro i; exact Nat.le_refl _
  | succ c ih => intro i; have := ih (i + 1); rw [cn]; split <;> omega
theorem cn_snoc {P : Nat → Bool} : ∀ c i, cn P (c + 1) i = cn P c i + (if P (i + c) = true then 1 else 0) := by
  intro c
  induction c with
  | zero => intro i; rw [cn, cn, cn, Nat.add_zero, Nat.zero_add]; rfl
  | succ c ih =>
    intro i
    rw [cn, ih (i + 1), cn, show i + 1 + c = i + (c + 1) by omega]; omega
/-- two kinds apart -/
theorem cn_add {P Q W : Nat → Bool} : ∀ c i, (∀ j, i ≤ j → j < i + c → P j = true → W j = true ∧ Q j = false) → (∀ j, i ≤ j → j < i + c → Q j = true → W j = true) → cn P c i + cn Q c i ≤ cn W c i := by
  intro c
  induction c with
  | zero => intro i _ _; exact Nat.le_refl _
  | succ c ih =>
    intro i h1 h2
    have h3 := ih (i + 1) (fun j a b => h1 j (by omega) (by omega)) (fun j a b => h2 j (by omega) (by omega))
    rw [cn, cn, cn]
    by_cases e : P i = true
    · have := h1 i (by omega) (by omega) e
      rw [if_pos e, if_pos this.1, this.2, if_neg (by decide)]; omega
    · rw [if_neg e]
      by_cases e2 : Q i = true
      · rw [if_pos e2, if_pos (h2 i (by omega) (by omega) e2)]; omega
      · rw [if_neg e2]; omega
/-- an image is no greater -/
theorem cn_one {P Q : Nat → Bool} {v : Nat} : ∀ c i, (∀ j, i ≤ j → j < i + c → P j = true → Q j = true ∨ j = v) → cn P c i ≤ cn Q c i + 1 := by
  intro c
  induction c with
  | zero => intro i _; exact Nat.zero_le _
  | succ c ih =>
    intro i h
    rw [cn, cn]
    by_cases e : i = v
    · have := cn_le (P := P) (Q := Q) c (i + 1) (fun j a b hp => by
        rcases h j (by omega) (by omega) hp with q | q
        · exact q
        · omega)
      split <;> split <;> omega
    · have := ih (i + 1) (fun j a b => h j (by omega) (by omega))
      by_cases e2 : P i = true
      · rcases h i (by omega) (by omega) e2 with q | q
        · rw [if_pos e2, if_pos q]; omega
        · exact absurd q e
      · rw [if_neg e2]; split <;> omega
def exB (st : Nat → Nat) (Q : Nat → Bool) (t : Nat) : Nat → Bool
  | 0 => false
  | G + 1 => exB st Q t G || (Q G && decide (st G = t + 1))
theorem exB_t {st : Nat → Nat} {Q : Nat → Bool} {t : Nat} : ∀ G, exB st Q t G = true ↔ ∃ g, g < G ∧ Q g = true ∧ st g = t + 1 := by
  intro G
  induction G with
  | zero =>
    constructor
    · intro h; cases h
    · rintro ⟨g, h, _⟩; exact absurd h (Nat.not_lt_zero _)
  | succ G ih =>
    rw [exB, Bool.or_eq_true, ih, Bool.and_eq_true, decide_eq_true_iff]
    constructor
    · rintro (⟨g, a, b, c⟩ | ⟨a, b⟩)
      · exact ⟨g, by omega, b, c⟩
      · exact ⟨G, by omega, a, b⟩
    · rintro ⟨g, a, b, c⟩
      by_cases e : g = G
      · subst e; exact Or.inr ⟨b, c⟩
      · exact Or.inl ⟨g, by omega, b, c⟩
theorem cn_img {st : Nat → Nat} {Q : Nat → Bool} (c a : Nat) : ∀ G, cn (fun t => exB st Q t G) c a ≤ cn Q G 0 := by
  intro G
  induction G with
  | zero =>
    have : cn (fun t => exB st Q t 0) c a ≤ cn (fun _ => false) c a := cn_le c a (fun j _ _ h => h)
    have z : ∀ c i, cn (fun _ => false) c i = 0 := by
      intro c
      induction c with
      | zero => intro i; rfl
      | succ c ih => intro i; rw [cn, ih]; rfl
    rw [z] at this; omega
  | succ G ih =>
    rw [cn_snoc, Nat.zero_add]
    by_cases e : Q G = true
    · rw [if_pos e]
      have := cn_one (P := fun t => exB st Q t (G + 1)) (Q := fun t => exB st Q t G) (v := st G - 1) c a (fun j _ _ h => by
        rcases (Bool.or_eq_true _ _).mp h with q | q
        · exact Or.inl q
        · have := of_decide_eq_true ((Bool.and_eq_true _ _).mp q).2
          exact Or.inr (by omega))
      omega
    · rw [if_neg e]
      have := cn_le (P := fun t => exB st Q t (G + 1)) (Q := fun t => exB st Q t G) c a (fun j _ _ h => by
        rcases (Bool.or_eq_true _ _).mp h with q | q
        · exact q
        · exact absurd ((Bool.and_eq_true _ _).mp q).1 e)
      omega
/-- the most, by the reference's table -/
def dpL (a x : Nat) (E : Nat → Nat) : Nat → Nat → Nat → Nat
  | 0, _, acc => acc
  | c + 1, g, acc => dpL a x E c (g + 1) (if a.testBit g = true ∧ ¬ x.testBit g = true then max acc (1 + E (x ||| 2 ^ g)) else acc)
def dpD (A : Nat → Nat) (F : Nat) : Nat → Nat → Nat → Nat
  | 0, _, _ => 0
  | c + 1, s, x => dpL (A s) x (fun y => dpD A F c (s + 1) y) F 0 (dpD A F c (s + 1) x)
theorem dpL_le {a x : Nat} {E : Nat → Nat} {v : Nat} : ∀ c i acc, acc ≤ v → (∀ g, i ≤ g → g < i + c → a.testBit g = true → ¬ x.testBit g = true → 1 + E (x ||| 2 ^ g) ≤ v) → dpL a x E c i acc ≤ v := by
  intro c
  induction c with
  | zero => intro i acc h _; exact h
  | succ c ih =>
    intro i acc h h2
    rw [dpL]
    refine ih (i + 1) _ ?_ (fun g a b => h2 g (by omega) (by omega))
    split
    · have := h2 i (by omega) (by omega) (‹_ ∧ _›).1 (‹_ ∧ _›).2
      omega
    · exact h
theorem dpL_acc {a x : Nat} {E : Nat → Nat} : ∀ c i acc, acc ≤ dpL a x E c i acc := by
  intro c
  induction c with
  | zero => intro i acc; exact Nat.le_refl _
  | succ c ih =>
    intro i acc
    rw [dpL]
    refine Nat.le_trans ?_ (ih (i + 1) _)
    split <;> omega
theorem dpL_ge {a x : Nat} {E : Nat → Nat} {g : Nat} (h1 : a.testBit g = true) (h2 : ¬ x.testBit g = true) : ∀ c i acc, i ≤ g → g < i + c → 1 + E (x ||| 2 ^ g) ≤ dpL a x E c i acc := by
  intro c
  induction c with
  | zero => intro i acc _ _; omega
  | succ c ih =>
    intro i acc a b
    rw [dpL]
    by_cases e : i = g
    · subst e
      rw [if_pos ⟨h1, h2⟩]
      exact Nat.le_trans (Nat.le_max_right _ _) (dpL_acc _ _ _)
    · exact ih (i + 1) _ (by omega) (by omega)
theorem or_tb {x g h : Nat} : (x ||| 2 ^ g).testBit h = true ↔ x.testBit h = true ∨ h = g := by
  rw [Nat.testBit_or, Bool.or_eq_true, Nat.testBit_two_pow, decide_eq_true_iff]
  constructor
  · rintro (a | a)
    · exact Or.inl a
    · exact Or.inr a.symm
  · rintro (a | a)
    · exact Or.inl a
    · exact Or.inr a.symm
section
variable {A : Nat → Nat} {F : Nat}
theorem dp_up {C R : Nat → Bool} : ∀ c s x, (∀ t, s ≤ t → t < s + c → C t = true → ∀ g, g < F → (A t).testBit g = true → ¬ x.testBit g = true → R g = true) → dpD A F c s x ≤ cn (fun g => R g && !x.testBit g) F 0 + cn (fun t => !C t) c s := by
  intro c
  induction c with
  | zero => intro s x _; exact Nat.zero_le _
  | succ c ih =>
    intro s x h
    rw [dpD]
    have hc : cn (fun t => !C t) c (s + 1) ≤ cn (fun t => !C t) (c + 1) s := by rw [cn]; omega
    refine dpL_le _ _ _ ?_ (fun g _ hg h1 h2 => ?_)
    · have := ih (s + 1) x (fun t a b => h t (by omega) (by omega))
      omega
    · have i1 := ih (s + 1) (x ||| 2 ^ g) (fun t a b hC g' hg' f1 f2 => h t (by omega) (by omega) hC g' hg' f1 (fun q => f2 (or_tb.mpr (Or.inl q))))
      have mono : ∀ j, 0 ≤ j → j < 0 + F → (R j && !(x ||| 2 ^ g).testBit j) = true → (R j && !x.testBit j) = true := fun j _ _ q => by
        rw [Bool.and_eq_true, Bool.not_eq_true'] at q ⊢
        refine ⟨q.1, ?_⟩
        cases hx : x.testBit j
        · rfl
        · have := (or_tb (g := g)).mpr (Or.inl hx)
          rw [this] at q; exact absurd q.2 (by decide)
      by_cases hC : C s = true
      · have hR := h s (by omega) (by omega) hC g (by omega) h1 h2
        have := cn_lt (P := fun g' => R g' && !(x ||| 2 ^ g).testBit g') (Q := fun g' => R g' && !x.testBit g') (s := g) (by show (R g && !(x ||| 2 ^ g).testBit g) = false; rw [or_tb.mpr (Or.inr rfl)]; cases R g <;> rfl) (by show (R g && !x.testBit g) = true; rw [hR]; cases hx : x.testBit g; rfl; exact absurd hx h2) F 0 mono (by omega) (by omega)
        omega
      · have := cn_le (P := fun g' => R g' && !(x ||| 2 ^ g).testBit g') (Q := fun g' => R g' && !x.testBit g') F 0 mono
        have e : cn (fun t => !C t) (c + 1) s = 1 + cn (fun t => !C t) c (s + 1) := by
          rw [cn, if_pos]
          show (!C s) = true
          cases hh : C s
          · rfl
          · exact absurd hh hC
        omega
theorem dp_lo {m : Nat → Bool} {st : Nat → Nat} : ∀ c s x, (∀ t, s ≤ t → t < s + c → m t = true → ∃ g, g < F ∧ st g = t + 1 ∧ (A t).testBit g = true ∧ ¬ x.testBit g = true) → cn m c s ≤ dpD A F c s x := by
  intro c
  induction c with
  | zero => intro s x _; exact Nat.le_refl _
  | succ c ih =>
    intro s x h
    rw [dpD, cn]
    by_cases e : m s = true
    · obtain ⟨g, g1, g2, g3, g4⟩ := h s (by omega) (by omega) e
      have i1 := ih (s + 1) (x ||| 2 ^ g) (fun t a b hm => by
        obtain ⟨g', q1, q2, q3, q4⟩ := h t (by omega) (by omega) hm
        refine ⟨g', q1, q2, q3, fun q => ?_⟩
        rcases or_tb.mp q with q | q
        · exact q4 q
        · rw [q, g2] at q2; omega)
      have := dpL_ge (E := fun y => dpD A F c (s + 1) y) g3 g4 F 0 (dpD A F c (s + 1) x) (by omega) (by omega)
      rw [if_pos e]
      omega
    · rw [if_neg e]
      have i1 := ih (s + 1) x (fun t a b => h t (by omega) (by omega))
      have := dpL_acc (a := A s) (x := x) (E := fun y => dpD A F c (s + 1) y) F 0 (dpD A F c (s + 1) x)
      omega
end
