/-! the two pictures -/
abbrev SA : Type := ((((((Nat → Nat) × Nat) × (Nat → Nat)) × (Nat × (Nat → Nat))) × ((((Nat → Nat) × (Nat → Nat)) × (Nat → Nat)) × (Nat × (Nat → Int64)))) × (((((Nat → Nat) × (Nat → Nat)) × (Nat → Int64)) × (Nat × (Nat → Nat))) × ((((Nat → Int64) × Nat) × (Nat → Nat)) × (Nat × (Nat → Int64)))))
def a_sg (σ : SA) : (Nat → Nat) := σ.1.1.1.1.1
def a_sn (σ : SA) : Nat := σ.1.1.1.1.2
def a_tx (σ : SA) : (Nat → Nat) := σ.1.1.1.2
def a_tn (σ : SA) : Nat := σ.1.1.2.1
def a_kd (σ : SA) : (Nat → Nat) := σ.1.1.2.2
def a_lv (σ : SA) : (Nat → Nat) := σ.1.2.1.1.1
def a_le (σ : SA) : (Nat → Nat) := σ.1.2.1.1.2
def a_ln (σ : SA) : (Nat → Nat) := σ.1.2.1.2
def a_hn (σ : SA) : Nat := σ.1.2.2.1
def a_tg (σ : SA) : (Nat → Int64) := σ.1.2.2.2
def a_lf (σ : SA) : (Nat → Nat) := σ.2.1.1.1.1
def a_lt (σ : SA) : (Nat → Nat) := σ.2.1.1.1.2
def a_ld (σ : SA) : (Nat → Int64) := σ.2.1.1.2
def a_lc (σ : SA) : Nat := σ.2.1.2.1
def a_rh (σ : SA) : (Nat → Nat) := σ.2.1.2.2
def a_rd (σ : SA) : (Nat → Int64) := σ.2.2.1.1.1
def a_rn (σ : SA) : Nat := σ.2.2.1.1.2
def a_ws (σ : SA) : (Nat → Nat) := σ.2.2.1.2
def a_wn (σ : SA) : Nat := σ.2.2.2.1
def a_aw (σ : SA) : (Nat → Int64) := σ.2.2.2.2
def au_sg (σ : SA) (x : (Nat → Nat)) : SA := (((((x, σ.1.1.1.1.2), σ.1.1.1.2), σ.1.1.2), σ.1.2), σ.2)
def au_sn (σ : SA) (x : Nat) : SA := (((((σ.1.1.1.1.1, x), σ.1.1.1.2), σ.1.1.2), σ.1.2), σ.2)
def au_tx (σ : SA) (x : (Nat → Nat)) : SA := ((((σ.1.1.1.1, x), σ.1.1.2), σ.1.2), σ.2)
def au_tn (σ : SA) (x : Nat) : SA := (((σ.1.1.1, (x, σ.1.1.2.2)), σ.1.2), σ.2)
def au_kd (σ : SA) (x : (Nat → Nat)) : SA := (((σ.1.1.1, (σ.1.1.2.1, x)), σ.1.2), σ.2)
def au_lv (σ : SA) (x : (Nat → Nat)) : SA := ((σ.1.1, (((x, σ.1.2.1.1.2), σ.1.2.1.2), σ.1.2.2)), σ.2)
def au_le (σ : SA) (x : (Nat → Nat)) : SA := ((σ.1.1, (((σ.1.2.1.1.1, x), σ.1.2.1.2), σ.1.2.2)), σ.2)
def au_ln (σ : SA) (x : (Nat → Nat)) : SA := ((σ.1.1, ((σ.1.2.1.1, x), σ.1.2.2)), σ.2)
def au_hn (σ : SA) (x : Nat) : SA := ((σ.1.1, (σ.1.2.1, (x, σ.1.2.2.2))), σ.2)
def au_tg (σ : SA) (x : (Nat → Int64)) : SA := ((σ.1.1, (σ.1.2.1, (σ.1.2.2.1, x))), σ.2)
def au_lf (σ : SA) (x : (Nat → Nat)) : SA := (σ.1, ((((x, σ.2.1.1.1.2), σ.2.1.1.2), σ.2.1.2), σ.2.2))
def au_lt (σ : SA) (x : (Nat → Nat)) : SA := (σ.1, ((((σ.2.1.1.1.1, x), σ.2.1.1.2), σ.2.1.2), σ.2.2))
def au_ld (σ : SA) (x : (Nat → Int64)) : SA := (σ.1, (((σ.2.1.1.1, x), σ.2.1.2), σ.2.2))
def au_lc (σ : SA) (x : Nat) : SA := (σ.1, ((σ.2.1.1, (x, σ.2.1.2.2)), σ.2.2))
def au_rh (σ : SA) (x : (Nat → Nat)) : SA := (σ.1, ((σ.2.1.1, (σ.2.1.2.1, x)), σ.2.2))
def au_rd (σ : SA) (x : (Nat → Int64)) : SA := (σ.1, (σ.2.1, (((x, σ.2.2.1.1.2), σ.2.2.1.2), σ.2.2.2)))
def au_rn (σ : SA) (x : Nat) : SA := (σ.1, (σ.2.1, (((σ.2.2.1.1.1, x), σ.2.2.1.2), σ.2.2.2)))
def au_ws (σ : SA) (x : (Nat → Nat)) : SA := (σ.1, (σ.2.1, ((σ.2.2.1.1, x), σ.2.2.2)))
def au_wn (σ : SA) (x : Nat) : SA := (σ.1, (σ.2.1, (σ.2.2.1, (x, σ.2.2.2.2))))
def au_aw (σ : SA) (x : (Nat → Int64)) : SA := (σ.1, (σ.2.1, (σ.2.2.1, (σ.2.2.2.1, x))))
def wA (a : Nat → Nat) (t : Nat → ClassId) (σ : SA) : va_W := [(a 0, .inr (6, [.ref (a 1), .ref (a 3), .ref (a 5), .ref (a 10), .ref (a 15), .ref (a 18)])), (a 1, .inr (0, [.ref (a 2), .int (nI (a_sn σ))])), (a 2, .inl (t 0, 40, .inl (fun j => nI (a_sg σ j)))), (a 3, .inr (1, [.ref (a 4), .int (nI (a_tn σ))])), (a 4, .inl (t 1, 20, .inl (fun j => nI (a_tx σ j)))), (a 5, .inr (2, [.ref (a 6), .ref (a 7), .ref (a 8), .ref (a 9), .int (nI (a_hn σ))])), (a 6, .inl (t 2, 61, .inl (fun j => nI (a_kd σ j)))), (a 7, .inl (t 3, 61, .inl (fun j => nI (a_lv σ j)))), (a 8, .inl (t 4, 1220, .inl (fun j => nI (a_le σ j)))), (a 9, .inl (t 5, 61, .inl (fun j => nI (a_ln σ j)))), (a 10, .inr (3, [.ref (a 11), .ref (a 12), .ref (a 13), .ref (a 14), .int (nI (a_lc σ))])), (a 11, .inl (t 6, 244, .inr (.inl (a_tg σ)))), (a 12, .inl (t 7, 512, .inl (fun j => nI (a_lf σ j)))), (a 13, .inl (t 8, 512, .inl (fun j => nI (a_lt σ j)))), (a 14, .inl (t 9, 512, .inr (.inl (a_ld σ)))), (a 15, .inr (4, [.ref (a 16), .ref (a 17), .int (nI (a_rn σ))])), (a 16, .inl (t 10, 61, .inl (fun j => nI (a_rh σ j)))), (a 17, .inl (t 11, 61, .inr (.inl (a_rd σ)))), (a 18, .inr (5, [.ref (a 19), .int (nI (a_wn σ)), .ref (a 20)])), (a 19, .inl (t 12, 60, .inl (fun j => nI (a_ws σ j)))), (a 20, .inl (t 13, 61, .inr (.inl (a_aw σ))))]
def yA (t : Nat → ClassId) : List (ClassId × FieldType) := [(t 0, .char), (t 1, .char), (t 2, .int), (t 3, .boolean), (t 4, .char), (t 5, .int), (t 6, .long), (t 7, .int), (t 8, .int), (t 9, .long), (t 10, .int), (t 11, .long), (t 12, .int), (t 13, .long)]
abbrev SM : Type := ((((((Nat → Nat) × Nat) × Nat) × ((Nat → Nat) × (Nat → Nat))) × ((((Nat → Nat) × (Nat → Nat)) × Nat) × ((Nat → Nat) × (Nat → Nat)))) × (((((Nat → Nat) × (Nat → Int64)) × Nat) × ((Nat → Nat) × (Nat → Int64))) × (((Nat → Nat) × Nat) × ((Nat → Nat) × Nat))))
def m_sd (σ : SM) : (Nat → Nat) := σ.1.1.1.1.1
def m_sz (σ : SM) : Nat := σ.1.1.1.1.2
def m_hn (σ : SM) : Nat := σ.1.1.1.2
def m_kd (σ : SM) : (Nat → Nat) := σ.1.1.2.1
def m_lv (σ : SM) : (Nat → Nat) := σ.1.1.2.2
def m_tx (σ : SM) : (Nat → Nat) := σ.1.2.1.1.1
def m_zs (σ : SM) : (Nat → Nat) := σ.1.2.1.1.2
def m_ln (σ : SM) : Nat := σ.1.2.1.2
def m_ls (σ : SM) : (Nat → Nat) := σ.1.2.2.1
def m_lf (σ : SM) : (Nat → Nat) := σ.1.2.2.2
def m_lt (σ : SM) : (Nat → Nat) := σ.2.1.1.1.1
def m_ld (σ : SM) : (Nat → Int64) := σ.2.1.1.1.2
def m_rn (σ : SM) : Nat := σ.2.1.1.2
def m_lk (σ : SM) : (Nat → Nat) := σ.2.1.2.1
def m_rd (σ : SM) : (Nat → Int64) := σ.2.1.2.2
def m_wy (σ : SM) : (Nat → Nat) := σ.2.2.1.1
def m_wn (σ : SM) : Nat := σ.2.2.1.2
def m_di (σ : SM) : (Nat → Nat) := σ.2.2.2.1
def m_co (σ : SM) : Nat := σ.2.2.2.2
def mu_sd (σ : SM) (x : (Nat → Nat)) : SM := (((((x, σ.1.1.1.1.2), σ.1.1.1.2), σ.1.1.2), σ.1.2), σ.2)
def mu_sz (σ : SM) (x : Nat) : SM := (((((σ.1.1.1.1.1, x), σ.1.1.1.2), σ.1.1.2), σ.1.2), σ.2)
def mu_hn (σ : SM) (x : Nat) : SM := ((((σ.1.1.1.1, x), σ.1.1.2), σ.1.2), σ.2)
def mu_kd (σ : SM) (x : (Nat → Nat)) : SM := (((σ.1.1.1, (x, σ.1.1.2.2)), σ.1.2), σ.2)
def mu_lv (σ : SM) (x : (Nat → Nat)) : SM := (((σ.1.1.1, (σ.1.1.2.1, x)), σ.1.2), σ.2)
def mu_tx (σ : SM) (x : (Nat → Nat)) : SM := ((σ.1.1, (((x, σ.1.2.1.1.2), σ.1.2.1.2), σ.1.2.2)), σ.2)
def mu_zs (σ : SM) (x : (Nat → Nat)) : SM := ((σ.1.1, (((σ.1.2.1.1.1, x), σ.1.2.1.2), σ.1.2.2)), σ.2)
def mu_ln (σ : SM) (x : Nat) : SM := ((σ.1.1, ((σ.1.2.1.1, x), σ.1.2.2)), σ.2)
def mu_ls (σ : SM) (x : (Nat → Nat)) : SM := ((σ.1.1, (σ.1.2.1, (x, σ.1.2.2.2))), σ.2)
def mu_lf (σ : SM) (x : (Nat → Nat)) : SM := ((σ.1.1, (σ.1.2.1, (σ.1.2.2.1, x))), σ.2)
def mu_lt (σ : SM) (x : (Nat → Nat)) : SM := (σ.1, ((((x, σ.2.1.1.1.2), σ.2.1.1.2), σ.2.1.2), σ.2.2))
def mu_ld (σ : SM) (x : (Nat → Int64)) : SM := (σ.1, ((((σ.2.1.1.1.1, x), σ.2.1.1.2), σ.2.1.2), σ.2.2))
def mu_rn (σ : SM) (x : Nat) : SM := (σ.1, (((σ.2.1.1.1, x), σ.2.1.2), σ.2.2))
def mu_lk (σ : SM) (x : (Nat → Nat)) : SM := (σ.1, ((σ.2.1.1, (x, σ.2.1.2.2)), σ.2.2))
def mu_rd (σ : SM) (x : (Nat → Int64)) : SM := (σ.1, ((σ.2.1.1, (σ.2.1.2.1, x)), σ.2.2))
def mu_wy (σ : SM) (x : (Nat → Nat)) : SM := (σ.1, (σ.2.1, ((x, σ.2.2.1.2), σ.2.2.2)))
def mu_wn (σ : SM) (x : Nat) : SM := (σ.1, (σ.2.1, ((σ.2.2.1.1, x), σ.2.2.2)))
def mu_di (σ : SM) (x : (Nat → Nat)) : SM := (σ.1, (σ.2.1, (σ.2.2.1, (x, σ.2.2.2.2))))
def mu_co (σ : SM) (x : Nat) : SM := (σ.1, (σ.2.1, (σ.2.2.1, (σ.2.2.2.1, x))))
def wM (a : Nat → Nat) (t : Nat → ClassId) (σ : SM) : va_W := [(a 0, .inr (7, [.int (nI 0), .ref (a 1), .int (nI (m_sz σ)), .int (nI (m_hn σ)), .ref (a 2), .ref (a 3), .ref (a 4), .ref (a 5), .int (nI (m_ln σ)), .ref (a 6), .ref (a 7), .ref (a 8), .ref (a 9), .int (nI (m_rn σ)), .ref (a 10), .ref (a 11), .ref (a 12), .int (nI (m_wn σ)), .ref (a 13), .int (nI (m_co σ))])), (a 1, .inl (t 0, 40, .inl (fun j => sb_b (m_sd σ j)))), (a 2, .inl (t 1, 61, .inl (fun j => nI (m_kd σ j)))), (a 3, .inl (t 2, 61, .inl (fun j => nI (m_lv σ j)))), (a 4, .inl (t 3, 1220, .inl (fun j => nI (m_tx σ j)))), (a 5, .inl (t 4, 61, .inl (fun j => nI (m_zs σ j)))), (a 6, .inl (t 5, 20000, .inl (fun j => nI (m_ls σ j)))), (a 7, .inl (t 6, 20000, .inl (fun j => nI (m_lf σ j)))), (a 8, .inl (t 7, 20000, .inl (fun j => nI (m_lt σ j)))), (a 9, .inl (t 8, 20000, .inr (.inl (m_ld σ)))), (a 10, .inl (t 9, 61, .inl (fun j => nI (m_lk σ j)))), (a 11, .inl (t 10, 61, .inr (.inl (m_rd σ)))), (a 12, .inl (t 11, 61, .inl (fun j => nI (m_wy σ j)))), (a 13, .inl (t 12, 61, .inl (fun j => nI (m_di σ j))))]
def yM (t : Nat → ClassId) : List (ClassId × FieldType) := [(t 0, .byte), (t 1, .int), (t 2, .boolean), (t 3, .byte), (t 4, .int), (t 5, .int), (t 6, .int), (t 7, .int), (t 8, .long), (t 9, .int), (t 10, .long), (t 11, .int), (t 12, .int)]
/-! what holds of the class's picture at any time, as far as its rows need it -/
def GA (σ : SA) : Prop := a_sn σ ≤ 40 ∧ (∀ j, a_sg σ j < 256) ∧ a_tn σ ≤ 20 ∧ (∀ j, a_tx σ j < 256) ∧ (∀ j, a_kd σ j < 4) ∧ (∀ j, a_lv σ j < 2) ∧ (∀ j, a_le σ j < 256) ∧ (∀ j, a_ln σ j ≤ 20) ∧ a_hn σ ≤ 60 ∧ (∀ j, a_lf σ j ≤ 60) ∧ (∀ j, a_lt σ j ≤ 60) ∧ a_lc σ ≤ 512 ∧ (∀ j, a_rh σ j ≤ 60) ∧ a_rn σ ≤ 60 ∧ (∀ j, a_ws σ j ≤ 60) ∧ a_wn σ ≤ 60
/-- a boolean answer -/
def BR (r : Int32) (P : Prop) : Prop := (r = nI 1 ∧ P) ∨ (r = nI 0 ∧ ¬ P)
theorem x_there {x : Int32} {n : Nat} (hn : n < 2 ^ 30) (h1 : ¬ x < nI 1) (h2 : ¬ nI n < x) : ∃ j, 1 ≤ j ∧ j ≤ n ∧ x = nI j := by
  rcases pk_ix x (n := n + 1) (by omega) with h | h | ⟨j, hj, rfl⟩
  · exact absurd (Int32.lt_of_lt_of_le h (show (0 : Int32) ≤ nI 1 by decide)) h1
  · exact absurd (Int32.lt_of_lt_of_le (nI_lt (Nat.lt_succ_self n) (by omega)) h) h2
  · refine ⟨j, ?_, by omega, rfl⟩
    rcases Nat.lt_or_ge j 1 with q | q
    · exact absurd (nI_lt q (by decide)) h1
    · exact q
theorem x_there1 {x : Int32} {n : Nat} (hn : n < 2 ^ 31) (h : x < nI 1) : ¬ ∃ j, 1 ≤ j ∧ j ≤ n ∧ x = nI j := by
  rintro ⟨j, h1, h2, rfl⟩
  have := (nI_ltI (by omega) (by decide)).mp h
  omega
theorem x_there2 {x : Int32} {n : Nat} (hn : n < 2 ^ 31) (h : nI n < x) : ¬ ∃ j, 1 ≤ j ∧ j ≤ n ∧ x = nI j := by
  rintro ⟨j, h1, h2, rfl⟩
  have := (nI_ltI hn (by omega)).mp h
  omega
