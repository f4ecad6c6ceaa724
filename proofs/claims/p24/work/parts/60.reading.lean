/-- a Reading at place d: its rows at fd 0 .. fd 19, its reasons at rs -/
def sv_K2 (S : sv_S) (r : sv_R) (d fo rs : Nat) (fd : Int → Nat) : Prop := d < S.1 ∧ (S.2 d).1 = 2 ∧ (r d 0 = some fo ∧ fo < S.1 ∧ S.2 fo = (10, 20)) ∧ (r d 1 = some rs ∧ rs < S.1 ∧ S.2 rs = (6, 20)) ∧ (∀ p, 0 ≤ p → p < 20 → r fo p = some (fd p) ∧ fd p < S.1 ∧ S.2 (fd p) = (6, 12) ∧ fd p ≠ rs) ∧ ∀ p p', 0 ≤ p → p < 20 → 0 ≤ p' → p' < 20 → p ≠ p' → fd p ≠ fd p'
/-- what a Reading holds, of the places below n -/
def sv_V2 (f : sv_F) (rs : Nat) (fd : Int → Nat) (m : Int → Int) (n : Int) : Prop := ∀ p, 0 ≤ p → p < n → f rs p = sp_R m (m (29 * p)) ∧ (sp_R m (m (29 * p)) = -1 → ∀ j, 0 ≤ j → j < 6 + 2 * m (29 * p + 1) → f (fd p) j = sp_V m (m (29 * p)) j)
section SVREAD
variable {S : sv_S} {r : sv_R} {d fo rs : Nat} {fd : Int → Nat}
theorem sv_K2.lt (h : sv_K2 S r d fo rs fd) : d < S.1 := h.1
theorem sv_K2.k (h : sv_K2 S r d fo rs fd) : (S.2 d).1 = 2 := h.2.1
theorem sv_K2.r1 (h : sv_K2 S r d fo rs fd) : r d 0 = some fo := h.2.2.1.1
theorem sv_K2.l1 (h : sv_K2 S r d fo rs fd) : fo < S.1 := h.2.2.1.2.1
theorem sv_K2.s1 (h : sv_K2 S r d fo rs fd) : S.2 fo = (10, 20) := h.2.2.1.2.2
theorem sv_K2.r2 (h : sv_K2 S r d fo rs fd) : r d 1 = some rs := h.2.2.2.1.1
theorem sv_K2.l2 (h : sv_K2 S r d fo rs fd) : rs < S.1 := h.2.2.2.1.2.1
theorem sv_K2.s2 (h : sv_K2 S r d fo rs fd) : S.2 rs = (6, 20) := h.2.2.2.1.2.2
theorem sv_K2.e (h : sv_K2 S r d fo rs fd) {p : Int} (h0 : 0 ≤ p) (h1 : p < 20) : r fo p = some (fd p) := (h.2.2.2.2.1 p h0 h1).1
theorem sv_K2.a (h : sv_K2 S r d fo rs fd) {p : Int} (h0 : 0 ≤ p) (h1 : p < 20) : fd p < S.1 ∧ S.2 (fd p) = (6, 12) := ⟨(h.2.2.2.2.1 p h0 h1).2.1, (h.2.2.2.2.1 p h0 h1).2.2.1⟩
theorem sv_K2.nr (h : sv_K2 S r d fo rs fd) {p : Int} (h0 : 0 ≤ p) (h1 : p < 20) : fd p ≠ rs := (h.2.2.2.2.1 p h0 h1).2.2.2
theorem sv_K2.dj (h : sv_K2 S r d fo rs fd) {p p' : Int} (h0 : 0 ≤ p) (h1 : p < 20) (h2 : 0 ≤ p') (h3 : p' < 20) (hn : p ≠ p') : fd p ≠ fd p' := h.2.2.2.2.2 p p' h0 h1 h2 h3 hn
end SVREAD
