/-! ===== reads, calls and what comes behind: what comes behind is not looked into until the read is done ===== -/
abbrev TU {β : Type} (_ : β) : Type := Unit
def hO {α : Type} (o : Option α) (K : α → Option Rs) (_p : TU K := ()) : Option Rs := bO o K
def hI (o : Option Rs) (K : Int32 → Mem → Option Rs) (_p : TU K := ()) : Option Rs := bI o K
def hL (o : Option Rs) (K : Int64 → Mem → Option Rs) (_p : TU K := ()) : Option Rs := bL o K
def hQ (o : Option Rs) (K : Option Nat → Mem → Option Rs) (_p : TU K := ()) : Option Rs := bQ o K
def hR (o : Option Rs) (K : Nat → Mem → Option Rs) (_p : TU K := ()) : Option Rs := bR o K
def hV (o : Option Rs) (K : Mem → Option Rs) (_p : TU K := ()) : Option Rs := bV o K
def hN (q : Option Nat) (F : Option Rs) (K : Nat → Option Rs) (_q : TU F := ()) (_p : TU K := ()) : Option Rs := bN q F K
theorem hO_s {α : Type} (x : α) (K : α → Option Rs) (p : TU K) : hO (some x) K p = K x := rfl
theorem hI_s (x : Int32) (σ : Mem) (K : Int32 → Mem → Option Rs) (p : TU K) : hI (some (some (.int x), σ)) K p = K x σ := rfl
theorem hL_s (x : Int64) (σ : Mem) (K : Int64 → Mem → Option Rs) (p : TU K) : hL (some (some (.long x), σ)) K p = K x σ := rfl
theorem hQ_s (x : Nat) (σ : Mem) (K : Option Nat → Mem → Option Rs) (p : TU K) : hQ (some (some (.ref x), σ)) K p = K (some x) σ := rfl
theorem hQ_n (σ : Mem) (K : Option Nat → Mem → Option Rs) (p : TU K) : hQ (some (some .null, σ)) K p = K none σ := rfl
theorem hR_s (x : Nat) (σ : Mem) (K : Nat → Mem → Option Rs) (p : TU K) : hR (some (some (.ref x), σ)) K p = K x σ := rfl
theorem hV_s (σ : Mem) (K : Mem → Option Rs) (p : TU K) : hV (some (none, σ)) K p = K σ := rfl
theorem hN_n (F : Option Rs) (K : Nat → Option Rs) (q : TU F) (p : TU K) : hN none F K q p = F := rfl
theorem hN_s (x : Nat) (F : Option Rs) (K : Nat → Option Rs) (q : TU F) (p : TU K) : hN (some x) F K q p = K x := rfl
