/-! pure words of the walk: a number gets a name; what must hold for a step to be there; a callee's answer -/
def bd {α β : Type} (e : α) (k : α → Option β) : Option β := k e
theorem bd_t {α β : Type} {e x : α} {k : α → Option β} {r : β} (h : x = e) (hf : bd e k = some r) : k x = some r := by subst h; exact hf
def gi {β : Type} (i : Int32) (n : Nat) (k : Option β) : Option β := if i < 0 ∨ n ≤ i.toNatClampNeg then none else k
theorem gi_t {β : Type} {i : Int32} {n : Nat} {k : Option β} {r : β} (h : gi i n k = some r) : vp_in i n ∧ k = some r := by
  unfold gi at h
  by_cases q : i < 0 ∨ n ≤ i.toNatClampNeg
  · rw [if_pos q] at h; cases h
  · rw [if_neg q] at h; exact ⟨q, h⟩
def gn {β : Type} (v : UInt64) (k : Option β) : Option β := if v &&& 0x7fffffffffffffff ≤ 0x7ff0000000000000 then k else none
theorem gn_t {β : Type} {v : UInt64} {k : Option β} {r : β} (h : gn v k = some r) : vf_n64 v ∧ k = some r := by
  unfold gn at h
  by_cases q : v &&& 0x7fffffffffffffff ≤ 0x7ff0000000000000
  · rw [if_pos q] at h; exact ⟨q, h⟩
  · rw [if_neg q] at h; cases h
def gb {β : Type} (v : Int32) (k : Option β) : Option β := if v = 0 ∨ v = 1 then k else none
theorem gb_t {β : Type} {v : Int32} {k : Option β} {r : β} (h : gb v k = some r) : (v = 0 ∨ v = 1) ∧ k = some r := by
  unfold gb at h
  by_cases q : v = 0 ∨ v = 1
  · rw [if_pos q] at h; exact ⟨q, h⟩
  · rw [if_neg q] at h; cases h
theorem nb_t {v : Int32} (h : v = 0 ∨ v = 1) : narrow .boolean (.int v) = .int v := by rcases h with rfl | rfl <;> decide
theorem fb_t {v : Int32} (h : v = 0 ∨ v = 1) : fits .boolean (.int v) = true := by rcases h with rfl | rfl <;> decide
def gc {β : Type} (sp dp n : Int32) (n0 n1 : Nat) (k : Option β) : Option β := if sp < 0 ∨ dp < 0 ∨ n < 0 ∨ n0 < sp.toNatClampNeg + n.toNatClampNeg ∨ n1 < dp.toNatClampNeg + n.toNatClampNeg then none else k
theorem gc_t {β : Type} {sp dp n : Int32} {n0 n1 : Nat} {k : Option β} {r : β} (h : gc sp dp n n0 n1 k = some r) : (¬ sp < 0 ∧ ¬ dp < 0 ∧ ¬ n < 0 ∧ sp.toNatClampNeg + n.toNatClampNeg ≤ n0 ∧ dp.toNatClampNeg + n.toNatClampNeg ≤ n1) ∧ k = some r := by
  unfold gc at h
  by_cases q : sp < 0 ∨ dp < 0 ∨ n < 0 ∨ n0 < sp.toNatClampNeg + n.toNatClampNeg ∨ n1 < dp.toNatClampNeg + n.toNatClampNeg
  · rw [if_pos q] at h; cases h
  · rw [if_neg q] at h
    exact ⟨⟨fun a => q (Or.inl a), fun a => q (Or.inr (Or.inl a)), fun a => q (Or.inr (Or.inr (Or.inl a))), Nat.le_of_not_lt fun a => q (Or.inr (Or.inr (Or.inr (Or.inl a)))), Nat.le_of_not_lt fun a => q (Or.inr (Or.inr (Or.inr (Or.inr a))))⟩, h⟩
def ca {ρ σ β : Type} (x : Option (ρ × σ)) (k : ρ → σ → Option β) : Option β := match x with
  | none => none
  | some (r, u) => k r u
theorem ca_t {ρ σ β : Type} {x : Option (ρ × σ)} {k : ρ → σ → Option β} {b : β} (h : ca x k = some b) : ∃ (r : ρ) (u : σ), x = some (r, u) ∧ k r u = some b := by
  cases x with
  | none => cases h
  | some q => exact ⟨q.1, q.2, rfl, h⟩
def cv {σ β : Type} (x : Option σ) (k : σ → Option β) : Option β := match x with
  | none => none
  | some u => k u
theorem cv_t {σ β : Type} {x : Option σ} {k : σ → Option β} {b : β} (h : cv x k = some b) : ∃ q : σ, x = some q ∧ k q = some b := by
  cases x with
  | none => cases h
  | some q => exact ⟨q, rfl, h⟩
def cx {ρ σ β : Type} (x : Option (Except (String × σ) (ρ × σ))) (kx : String → σ → Option β) (k : ρ → σ → Option β) : Option β := match x with
  | none => none
  | some (.error (E, u)) => kx E u
  | some (.ok (r, u)) => k r u
def cxv {σ β : Type} (x : Option (Except (String × σ) σ)) (kx : String → σ → Option β) (k : σ → Option β) : Option β := match x with
  | none => none
  | some (.error (E, u)) => kx E u
  | some (.ok u) => k u
theorem ite_t {α : Type} {c : Prop} [Decidable c] {a b r : α} (hc : c) (h : (if c then a else b) = r) : a = r := by rw [if_pos hc] at h; exact h
theorem ite_f {α : Type} {c : Prop} [Decidable c] {a b r : α} (hc : ¬ c) (h : (if c then a else b) = r) : b = r := by rw [if_neg hc] at h; exact h
theorem sw_ne {x k : Int32} {n : Int} (hk : k.toInt = n) (h : ¬ x = k) : x.toInt ≠ n := fun e => h (Int32.toInt_inj.mp (e.trans hk.symm))
theorem sw_at {p : Program} {l : Launch} {e : Env} {R : Room} {s : State} {m : MethodId} {args : Array Value} {below : List Frame} {meth : Method} {c : Code} {H : Heap} {locs : List Loc} {cells slots pc : Nat} {Q : State → Prop} {ls : Array Slot} {rest : List Value} {x k : Int32} (h : x = k)
    (kk : W p l e R s m args below meth c H locs cells slots Q (F0 m pc ls (.int k :: rest))) : W p l e R s m args below meth c H locs cells slots Q (F0 m pc ls (.int x :: rest)) := by rw [h]; exact kk
theorem nameQ {p : Program} {l : Launch} {e : Env} {R : Room} {s : State} {m : MethodId} {args : Array Value} {below : List Frame} {meth : Method} {c : Code} {H : Heap} {locs : List Loc} {cells slots : Nat} {Q : State → Prop} {g : JFrame}
    (k : ∀ Q' : State → Prop, Q' = Q → W p l e R s m args below meth c H locs cells slots Q' g) : W p l e R s m args below meth c H locs cells slots Q g := k Q rfl
abbrev S_Events : Type := (Nat → Int32) × Int32
abbrev S_Flash : Type := (Nat → Int64) × (Nat → Int32) × (Nat → Int64) × Int32 × Int32
abbrev S_Line : Type := (Nat → Int32) × (Nat → Int32) × (Nat → Int32) × Int32 × Int32 × Int32 × Int32
abbrev S_Plans : Type := (Nat → Int32) × (Nat → Int32)
abbrev S_State : Type := (Nat → UInt64) × Int32 × UInt64 × UInt64 × Int32 × Int32 × Int32
abbrev S_Box : Type := (Nat → UInt64) × S_Plans × S_State × S_Events × S_Flash × S_Line × Int32
abbrev S_Mod : Type := Int32 × Int32 × Int32 × UInt64 × (Nat → UInt64) × UInt64 × Int32 × Int32 × Int32 × (Nat → UInt64) × (Nat → Int32) × (Nat → Int32) × (Nat → Int32) × Int32 × (Nat → Int64) × (Nat → Int32) × Int32 × Int32 × Int32 × Int32 × Int32 × (Nat → Int32) × Int32 × (Nat → Int32) × Int32
