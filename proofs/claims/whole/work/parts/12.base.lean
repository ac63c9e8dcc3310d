/-! small laws for the walks of blocks -/
theorem he_nil (n : Nat) : hv_ent [] n = List.replicate n none := by cases n <;> rfl
theorem he_i (z : Int) (vs : List hv_V) (n : Nat) : hv_ent (.inl z :: vs) (n + 1) = some (.inl z) :: hv_ent vs n := rfl
theorem he_r (a : Nat) (vs : List hv_V) (n : Nat) : hv_ent (.inr (.inr a) :: vs) (n + 1) = some (.inr (.inr a)) :: hv_ent vs n := rfl
theorem he_l (z : Int) (vs : List hv_V) (n : Nat) : hv_ent (.inr (.inl z) :: vs) (n + 2) = some (.inr (.inl z)) :: none :: hv_ent vs n := rfl
theorem hv_repl_0 : List.replicate 0 (none : Option hv_V) = [] := rfl
theorem hv_repl_s (n : Nat) : List.replicate (n + 1) (none : Option hv_V) = none :: List.replicate n none := rfl
/-- a loop that counts up to n -/
theorem lp_up {σ : Type} (n : Nat) {G P : Nat → σ → Prop} (hd : ∀ x, P n x → G n x) (hs : ∀ k x, k < n → P k x → (∀ x', P (k + 1) x' → G (k + 1) x') → G k x) : ∀ k x, k ≤ n → P k x → G k x := by
  have key : ∀ d k x, k + d = n → P k x → G k x := by
    intro d
    induction d with
    | zero => intro k x hk hP; rw [show k = n by omega] at hP ⊢; exact hd x hP
    | succ d ih => intro k x hk hP; exact hs k x (by omega) hP (fun x' hx' => ih (k + 1) x' (by omega) hx')
  exact fun k x hk hP => key (n - k) k x (by omega) hP
/-- a loop whose measure falls -/
theorem lp_m {σ : Type} (μ : σ → Nat) {G P : σ → Prop} (hs : ∀ x, P x → (∀ x', P x' → μ x' < μ x → G x') → G x) : ∀ x, P x → G x := by
  have key : ∀ n x, μ x < n → P x → G x := by
    intro n
    induction n with
    | zero => intro x h; omega
    | succ n ih => intro x hx hP; exact hs x hP (fun x' hP' hlt => ih x' (by omega) hP')
  exact fun x hP => key (μ x + 1) x (by omega) hP
