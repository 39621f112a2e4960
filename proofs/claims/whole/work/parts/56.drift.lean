/-! draws, days by draws -/
def nxNat9 (k : Nat) : Nat := (k * 1103515245 + 12345) % 2147483648
theorem y_nat {k : Nat} (hk : k < 2147483648) : (nI k).toInt64 * 1103515245 + 12345 = Int64.ofNat (k * 1103515245 + 12345) := by
  rw [show (nI k).toInt64 = Int64.ofNat k from Int32.toInt64_ofNat' (by show (k : Int) ≤ 2147483647; omega), show (1103515245 : Int64) = Int64.ofNat 1103515245 from rfl, show (12345 : Int64) = Int64.ofNat 12345 from rfl, ← Int64.ofNat_mul, ← Int64.ofNat_add]
theorem nxM_n {k : Nat} (hk : k < 2147483648) : nxM (nI k) = nI (nxNat9 k) := by
  unfold nxM nxNat9
  rw [y_nat hk, show (2147483648 : Int64) = Int64.ofNat 2147483648 from rfl]
  generalize hn : k * 1103515245 + 12345 = n
  have hn2 : n < 2 ^ 63 := by omega
  rw [← Int64.ofNat_div hn2 (by decide), ← Int64.ofNat_mul, ← Int64.ofNat_sub _ _ (by omega), show n - n / 2147483648 * 2147483648 = n % 2147483648 by omega]
  exact Int64.toInt32_ofNat'
theorem b_31 : ∀ i, i < 32 → bt 2147483647 i = decide (i < 31) := by decide +kernel
theorem nx7_n {k : Nat} (hk : k < 2147483648) : nx7 (nI k) = nI (nxNat9 k) := by
  unfold nx7 nxNat9
  rw [y_nat hk, Int64.toInt32_and, show (Int64.ofNat (k * 1103515245 + 12345)).toInt32 = nI (k * 1103515245 + 12345) from Int64.toInt32_ofNat', show (2147483647 : Int64).toInt32 = 2147483647 from rfl]
  refine b_ext (fun i hi => ?_)
  rw [b_and, b_31 i hi, b_nI _ hi, b_nI _ hi, show 2147483648 = 2 ^ 31 from rfl, Nat.testBit_mod_two_pow, Bool.and_comm]
theorem nxNat9_lt (k : Nat) : nxNat9 k < 2147483648 := Nat.mod_lt _ (by decide)
def drN (k N : Nat) : Nat := nxNat9 k / 65536 % N
theorem rem_n {m N : Nat} (hm : m < 2147483648) (hN : 0 < N) (hN2 : N ≤ 16) : nI m / 65536 - nI m / 65536 / nI N * nI N = nI (m / 65536 % N) := by
  rw [show nI m / 65536 = nI (m / 65536) from pk_div (d := 65536) (by omega) (by decide) (by decide), pk_div (by omega) hN (by omega), pk_mul, pk_sub (Nat.div_mul_le_self _ _)]
  congr 1
  have := Nat.div_add_mod (m / 65536) N
  rw [Nat.mul_comm] at this
  omega
theorem dw_n {k N : Nat} (hk : k < 2147483648) (hN : 0 < N) (hN2 : N ≤ 16) : dwV (nI k) (nI N) = nI (drN k N) := by
  unfold dwV drN
  rw [nxM_n hk]
  exact rem_n (nxNat9_lt k) hN hN2
theorem dr_n {k N : Nat} (hk : k < 2147483648) (hN : 0 < N) (hN2 : N ≤ 16) : dr7 (nI k) (nI N) = nI (drN k N) := by
  unfold dr7 drN
  rw [if_neg (fun z => by have := n_ge (b := N) (a := 0) z (by decide) (by omega); omega), nx7_n hk]
  exact rem_n (nxNat9_lt k) hN hN2
theorem sub_with {x M : Int32} {n : Nat} (hx : sub x M) (hM : sub (one (nI n)) M) : sub (withI x (nI n) 1) M := by
  unfold withI
  rw [if_neg (by decide)]
  exact or_sub hx hM
theorem sub_with0 {x M : Int32} (k : Int32) (hx : sub x M) : sub (withI x k 0) M := by
  unfold withI
  rw [if_pos rfl]
  exact sub_trans (and_sub_l _ _) hx
section DRI
variable {T : TT9} {al : Int32}
theorem day_eq (w : WT9 T) (ht : ¬ T.1 = 0) {m : Nat} (hm : m < 2147483648) {a b c : Int32} (ha : sub a (mk9 T.1)) (hb : sub b (mk9 T.1)) : day7 T.2.1 T.2.2.2.1 T.2.2.2.2 al (2 * nI T.1) (nI m, a, b, c) = dayF T.2.1 T.2.2.2.1 T.2.2.2.2 al (2 * nI T.1) (nI m, a, b, c) ∧ ∃ (m' : Nat) (a' b' c' : Int32), dayF T.2.1 T.2.2.2.1 T.2.2.2.2 al (2 * nI T.1) (nI m, a, b, c) = (nI m', a', b', c') ∧ m' < 2147483648 ∧ sub a' (mk9 T.1) ∧ sub b' (mk9 T.1) := by
  have h8 := w.1
  have hs : drN m (2 * T.1) < 2 * T.1 := Nat.mod_lt _ (by omega)
  have e1 := dr_n hm (N := 2 * T.1) (by omega) (by omega)
  have e2 := dw_n hm (N := 2 * T.1) (by omega) (by omega)
  have e3 := dr_n (nxNat9_lt m) (N := 4) (by decide) (by decide)
  have e4 := dw_n (nxNat9_lt m) (N := 4) (by decide) (by decide)
  have hdx := den_x (drN m (2 * T.1)) (by omega)
  have hsub : sub (withI (withI a (nI (drN m (2 * T.1))) 1) (denI (nI (drN m (2 * T.1)))) 0) (mk9 T.1) := sub_with0 _ (sub_with ha (sub_mask hs w.1))
  unfold day7 dayF
  dsimp only
  rw [two_nI T.1 (by omega), e1, e2, nx7_n hm, nxM_n hm, nx7_n (nxNat9_lt m), nxM_n (nxNat9_lt m), show (4 : Int32) = nI 4 from rfl, e3, e4, hdx.1, hdx.2]
  rw [hdx.2] at hsub
  refine ⟨rfl, ?_⟩
  by_cases c0 : nI (drN (nxNat9 m) 4) = 0
  · rw [if_pos c0]
    exact ⟨_, _, _, _, rfl, nxNat9_lt _, hsub, w.cl9 (or_sub hsub hb)⟩
  · rw [if_neg c0]
    exact ⟨_, _, _, _, rfl, nxNat9_lt _, hsub, hb⟩
theorem df_eq (w : WT9 T) (ht : ¬ T.1 = 0) {m : Nat} (hm : m < 2147483648) {a b c : Int32} (ha : sub a (mk9 T.1)) (hb : sub b (mk9 T.1)) : ∀ n, df7 T.2.1 T.2.2.2.1 T.2.2.2.2 al (2 * nI T.1) (nI m, a, b, c) n = dfF T.2.1 T.2.2.2.1 T.2.2.2.2 al (2 * nI T.1) (nI m, a, b, c) n ∧ ∃ (m' : Nat) (a' b' c' : Int32), dfF T.2.1 T.2.2.2.1 T.2.2.2.2 al (2 * nI T.1) (nI m, a, b, c) n = (nI m', a', b', c') ∧ m' < 2147483648 ∧ sub a' (mk9 T.1) ∧ sub b' (mk9 T.1)
  | 0 => ⟨rfl, m, a, b, c, rfl, hm, ha, hb⟩
  | n + 1 => by
    obtain ⟨e, m', a', b', c', e2, h1, h2, h3⟩ := df_eq w ht hm ha hb n
    have hd := day_eq (al := al) w ht h1 (a := a') (b := b') (c := c') h2 h3
    show day7 _ _ _ _ _ (df7 _ _ _ _ _ _ n) = dayF _ _ _ _ _ (dfF _ _ _ _ _ _ n) ∧ ∃ (m' : Nat) (a' b' c' : Int32), dayF _ _ _ _ _ (dfF _ _ _ _ _ _ n) = (nI m', a', b', c') ∧ m' < 2147483648 ∧ sub a' (mk9 T.1) ∧ sub b' (mk9 T.1)
    rw [e, e2]
    exact hd
end DRI
theorem df_congr {nr : Nat} {cn nd cn' nd' : Nat → Int32} {al t2 : Int32} {q : Int32 × Int32 × Int32 × Int32} (h : ∀ r, r < nr → cn r = cn' r ∧ nd r = nd' r) : ∀ n, dfF nr cn nd al t2 q n = dfF nr cn' nd' al t2 q n
  | 0 => rfl
  | n + 1 => by
    show dayF _ _ _ _ _ (dfF _ _ _ _ _ _ n) = dayF _ _ _ _ _ (dfF _ _ _ _ _ _ n)
    rw [df_congr h n]
    unfold dayF
    rw [clo_congr h]
theorem df7_congr {nr : Nat} {cn nd cn' nd' : Nat → Int32} {al t2 : Int32} {q : Int32 × Int32 × Int32 × Int32} (h : ∀ r, r < nr → cn r = cn' r ∧ nd r = nd' r) : ∀ n, df7 nr cn nd al t2 q n = df7 nr cn' nd' al t2 q n
  | 0 => rfl
  | n + 1 => by
    show day7 _ _ _ _ _ (df7 _ _ _ _ _ _ n) = day7 _ _ _ _ _ (df7 _ _ _ _ _ _ n)
    rw [df7_congr h n]
    unfold day7
    rw [clo_congr h]
