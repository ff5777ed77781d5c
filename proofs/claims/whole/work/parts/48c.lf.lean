theorem ne_none {x y : fp} : (some (x, y) : pt) ≠ none := fun h => by cases h
theorem gG_ne : gG ≠ none := fun h => by cases h
def nm : pt → Nat
  | none => 2147470046
  | some p => 2 * p.1.val + p.2.val % 2
theorem p_order {N : Nat} (hN : N = 1073729077) {P : pt} (hP : ec_on P) (h0 : P ≠ none) {d : Nat} (hd0 : 0 < d) (hd : d < N) : mu P d ≠ none := by
  refine eo_order fF gG_on (n := N) (b := 2147470047) (n_prime hN) (mu_G hN) gG_ne nm ?_ ?_ (by omega) hP h0 hd0 hd
  · intro Q hQ
    cases Q with
    | none => exact (by decide : 2147470046 < 2147470047)
    | some q =>
      show 2 * q.1.val + q.2.val % 2 < 2147470047
      have := q.1.isLt
      omega
  · intro Q R hQ hR h
    cases Q with
    | none =>
      cases R with
      | none => rfl
      | some r =>
        have h : 2147470046 = 2 * r.1.val + r.2.val % 2 := h
        have := r.1.isLt
        omega
    | some q =>
      cases R with
      | none =>
        have h : 2 * q.1.val + q.2.val % 2 = 2147470046 := h
        have := q.1.isLt
        omega
      | some r =>
        obtain ⟨x1, y1⟩ := q
        obtain ⟨x2, y2⟩ := r
        have h : 2 * x1.val + y1.val % 2 = 2 * x2.val + y2.val % 2 := h
        have hx : x1 = x2 := Fin.ext (by omega)
        subst hx
        have hy : y1 = y2 := par_uniq hQ hR (by
          show (y1.val : Int) % 2 = (y2.val : Int) % 2
          omega)
        subst hy
        rfl
