section LAW1
theorem pmH_S {α : Type} {O N S R F H W a b c d K p q : List α} : (O ++ (N ++ (S ++ (R ++ (F ++ (H ++ (W ++ (a ++ (b ++ (c ++ (d ++ (K ++ (p ++ q))))))))))))).Perm ((O ++ (S ++ R)) ++ (N ++ (F ++ (H ++ (W ++ (a ++ (b ++ (c ++ (d ++ (K ++ (p ++ q))))))))))) := by
  classical
  exact List.perm_iff_count.mpr (fun x => by simp only [List.count_append]; omega)
theorem pmX_S {α : Type} {O N S R F H W a b c d K p q : List α} : (O ++ (N ++ (S ++ (R ++ (F ++ (H ++ (W ++ (a ++ (b ++ (c ++ (d ++ (K ++ (p ++ q))))))))))))).Perm ((S ++ R) ++ (O ++ (N ++ (F ++ (H ++ (W ++ (a ++ (b ++ (c ++ (d ++ (K ++ (p ++ q)))))))))))) := by
  classical
  exact List.perm_iff_count.mpr (fun x => by simp only [List.count_append]; omega)
theorem pmH_F {α : Type} {O N S R F H W a b c d K p q : List α} : (O ++ (N ++ (S ++ (R ++ (F ++ (H ++ (W ++ (a ++ (b ++ (c ++ (d ++ (K ++ (p ++ q))))))))))))).Perm ((O ++ (F ++ (S ++ R))) ++ (N ++ (H ++ (W ++ (a ++ (b ++ (c ++ (d ++ (K ++ (p ++ q)))))))))) := by
  classical
  exact List.perm_iff_count.mpr (fun x => by simp only [List.count_append]; omega)
theorem pmX_F {α : Type} {O N S R F H W a b c d K p q : List α} : (O ++ (N ++ (S ++ (R ++ (F ++ (H ++ (W ++ (a ++ (b ++ (c ++ (d ++ (K ++ (p ++ q))))))))))))).Perm ((F ++ (S ++ R)) ++ (O ++ (N ++ (H ++ (W ++ (a ++ (b ++ (c ++ (d ++ (K ++ (p ++ q))))))))))) := by
  classical
  exact List.perm_iff_count.mpr (fun x => by simp only [List.count_append]; omega)
theorem pmH_k {α : Type} {O N S R F H W a b c d K p q : List α} : (O ++ (N ++ (S ++ (R ++ (F ++ (H ++ (W ++ (a ++ (b ++ (c ++ (d ++ (K ++ (p ++ q))))))))))))).Perm ((O ++ (S ++ (R ++ (H ++ W)))) ++ (N ++ (F ++ (a ++ (b ++ (c ++ (d ++ (K ++ (p ++ q))))))))) := by
  classical
  exact List.perm_iff_count.mpr (fun x => by simp only [List.count_append]; omega)
theorem pmX_k {α : Type} {O N S R F H W a b c d K p q : List α} : (O ++ (N ++ (S ++ (R ++ (F ++ (H ++ (W ++ (a ++ (b ++ (c ++ (d ++ (K ++ (p ++ q))))))))))))).Perm ((S ++ (R ++ (H ++ W))) ++ (O ++ (N ++ (F ++ (a ++ (b ++ (c ++ (d ++ (K ++ (p ++ q)))))))))) := by
  classical
  exact List.perm_iff_count.mpr (fun x => by simp only [List.count_append]; omega)
theorem pmH_ra {α : Type} {O N S R F H W a b c d K p q : List α} : (O ++ (N ++ (S ++ (R ++ (F ++ (H ++ (W ++ (a ++ (b ++ (c ++ (d ++ (K ++ (p ++ q))))))))))))).Perm ((O ++ (S ++ (R ++ ((a ++ b) ++ (H ++ W))))) ++ (N ++ (F ++ (c ++ (d ++ (K ++ (p ++ q))))))) := by
  classical
  exact List.perm_iff_count.mpr (fun x => by simp only [List.count_append]; omega)
theorem pmX_ra {α : Type} {O N S R F H W a b c d K p q : List α} : (O ++ (N ++ (S ++ (R ++ (F ++ (H ++ (W ++ (a ++ (b ++ (c ++ (d ++ (K ++ (p ++ q))))))))))))).Perm ((S ++ (R ++ ((a ++ b) ++ (H ++ W)))) ++ (O ++ (N ++ (F ++ (c ++ (d ++ (K ++ (p ++ q)))))))) := by
  classical
  exact List.perm_iff_count.mpr (fun x => by simp only [List.count_append]; omega)
theorem pmH_rb {α : Type} {O N S R F H W a b c d K p q : List α} : (O ++ (N ++ (S ++ (R ++ (F ++ (H ++ (W ++ (a ++ (b ++ (c ++ (d ++ (K ++ (p ++ q))))))))))))).Perm ((O ++ (S ++ (R ++ ((c ++ d) ++ (H ++ W))))) ++ (N ++ (F ++ (a ++ (b ++ (K ++ (p ++ q))))))) := by
  classical
  exact List.perm_iff_count.mpr (fun x => by simp only [List.count_append]; omega)
theorem pmX_rb {α : Type} {O N S R F H W a b c d K p q : List α} : (O ++ (N ++ (S ++ (R ++ (F ++ (H ++ (W ++ (a ++ (b ++ (c ++ (d ++ (K ++ (p ++ q))))))))))))).Perm ((S ++ (R ++ ((c ++ d) ++ (H ++ W)))) ++ (O ++ (N ++ (F ++ (a ++ (b ++ (K ++ (p ++ q)))))))) := by
  classical
  exact List.perm_iff_count.mpr (fun x => by simp only [List.count_append]; omega)
theorem pmH_sa {α : Type} {O N S R F H W a b c d K p q : List α} : (O ++ (N ++ (S ++ (R ++ (F ++ (H ++ (W ++ (a ++ (b ++ (c ++ (d ++ (K ++ (p ++ q))))))))))))).Perm ((O ++ (S ++ (R ++ (a ++ b)))) ++ (N ++ (F ++ (H ++ (W ++ (c ++ (d ++ (K ++ (p ++ q))))))))) := by
  classical
  exact List.perm_iff_count.mpr (fun x => by simp only [List.count_append]; omega)
theorem pmX_sa {α : Type} {O N S R F H W a b c d K p q : List α} : (O ++ (N ++ (S ++ (R ++ (F ++ (H ++ (W ++ (a ++ (b ++ (c ++ (d ++ (K ++ (p ++ q))))))))))))).Perm ((S ++ (R ++ (a ++ b))) ++ (O ++ (N ++ (F ++ (H ++ (W ++ (c ++ (d ++ (K ++ (p ++ q)))))))))) := by
  classical
  exact List.perm_iff_count.mpr (fun x => by simp only [List.count_append]; omega)
theorem pmH_sb {α : Type} {O N S R F H W a b c d K p q : List α} : (O ++ (N ++ (S ++ (R ++ (F ++ (H ++ (W ++ (a ++ (b ++ (c ++ (d ++ (K ++ (p ++ q))))))))))))).Perm ((O ++ (S ++ (R ++ (c ++ d)))) ++ (N ++ (F ++ (H ++ (W ++ (a ++ (b ++ (K ++ (p ++ q))))))))) := by
  classical
  exact List.perm_iff_count.mpr (fun x => by simp only [List.count_append]; omega)
theorem pmX_sb {α : Type} {O N S R F H W a b c d K p q : List α} : (O ++ (N ++ (S ++ (R ++ (F ++ (H ++ (W ++ (a ++ (b ++ (c ++ (d ++ (K ++ (p ++ q))))))))))))).Perm ((S ++ (R ++ (c ++ d))) ++ (O ++ (N ++ (F ++ (H ++ (W ++ (a ++ (b ++ (K ++ (p ++ q)))))))))) := by
  classical
  exact List.perm_iff_count.mpr (fun x => by simp only [List.count_append]; omega)
theorem pmH_R {α : Type} {O N S R F H W a b c d K p q : List α} : (O ++ (N ++ (S ++ (R ++ (F ++ (H ++ (W ++ (a ++ (b ++ (c ++ (d ++ (K ++ (p ++ q))))))))))))).Perm ((O ++ R) ++ (N ++ (S ++ (F ++ (H ++ (W ++ (a ++ (b ++ (c ++ (d ++ (K ++ (p ++ q)))))))))))) := by
  classical
  exact List.perm_iff_count.mpr (fun x => by simp only [List.count_append]; omega)
theorem pmX_R {α : Type} {O N S R F H W a b c d K p q : List α} : (O ++ (N ++ (S ++ (R ++ (F ++ (H ++ (W ++ (a ++ (b ++ (c ++ (d ++ (K ++ (p ++ q))))))))))))).Perm (R ++ (O ++ (N ++ (S ++ (F ++ (H ++ (W ++ (a ++ (b ++ (c ++ (d ++ (K ++ (p ++ q))))))))))))) := by
  classical
  exact List.perm_iff_count.mpr (fun x => by simp only [List.count_append]; omega)
theorem pmH_ea {α : Type} {O N S R F H W a b c d K p q : List α} : (O ++ (N ++ (S ++ (R ++ (F ++ (H ++ (W ++ (a ++ (b ++ (c ++ (d ++ (K ++ (p ++ q))))))))))))).Perm ((O ++ (R ++ b)) ++ (N ++ (S ++ (F ++ (H ++ (W ++ (a ++ (c ++ (d ++ (K ++ (p ++ q))))))))))) := by
  classical
  exact List.perm_iff_count.mpr (fun x => by simp only [List.count_append]; omega)
theorem pmX_ea {α : Type} {O N S R F H W a b c d K p q : List α} : (O ++ (N ++ (S ++ (R ++ (F ++ (H ++ (W ++ (a ++ (b ++ (c ++ (d ++ (K ++ (p ++ q))))))))))))).Perm ((R ++ b) ++ (O ++ (N ++ (S ++ (F ++ (H ++ (W ++ (a ++ (c ++ (d ++ (K ++ (p ++ q)))))))))))) := by
  classical
  exact List.perm_iff_count.mpr (fun x => by simp only [List.count_append]; omega)
theorem pmH_eb {α : Type} {O N S R F H W a b c d K p q : List α} : (O ++ (N ++ (S ++ (R ++ (F ++ (H ++ (W ++ (a ++ (b ++ (c ++ (d ++ (K ++ (p ++ q))))))))))))).Perm ((O ++ (R ++ d)) ++ (N ++ (S ++ (F ++ (H ++ (W ++ (a ++ (b ++ (c ++ (K ++ (p ++ q))))))))))) := by
  classical
  exact List.perm_iff_count.mpr (fun x => by simp only [List.count_append]; omega)
theorem pmX_eb {α : Type} {O N S R F H W a b c d K p q : List α} : (O ++ (N ++ (S ++ (R ++ (F ++ (H ++ (W ++ (a ++ (b ++ (c ++ (d ++ (K ++ (p ++ q))))))))))))).Perm ((R ++ d) ++ (O ++ (N ++ (S ++ (F ++ (H ++ (W ++ (a ++ (b ++ (c ++ (K ++ (p ++ q)))))))))))) := by
  classical
  exact List.perm_iff_count.mpr (fun x => by simp only [List.count_append]; omega)
theorem pmH_u {α : Type} {O N S R F H W a b c d K p q : List α} : (O ++ (N ++ (S ++ (R ++ (F ++ (H ++ (W ++ (a ++ (b ++ (c ++ (d ++ (K ++ (p ++ q))))))))))))).Perm ((O ++ (R ++ H)) ++ (N ++ (S ++ (F ++ (W ++ (a ++ (b ++ (c ++ (d ++ (K ++ (p ++ q))))))))))) := by
  classical
  exact List.perm_iff_count.mpr (fun x => by simp only [List.count_append]; omega)
theorem pmX_u {α : Type} {O N S R F H W a b c d K p q : List α} : (O ++ (N ++ (S ++ (R ++ (F ++ (H ++ (W ++ (a ++ (b ++ (c ++ (d ++ (K ++ (p ++ q))))))))))))).Perm ((R ++ H) ++ (O ++ (N ++ (S ++ (F ++ (W ++ (a ++ (b ++ (c ++ (d ++ (K ++ (p ++ q)))))))))))) := by
  classical
  exact List.perm_iff_count.mpr (fun x => by simp only [List.count_append]; omega)
theorem pmH_w {α : Type} {O N S R F H W a b c d K p q : List α} : (O ++ (N ++ (S ++ (R ++ (F ++ (H ++ (W ++ (a ++ (b ++ (c ++ (d ++ (K ++ (p ++ q))))))))))))).Perm ((O ++ (S ++ (R ++ K))) ++ (N ++ (F ++ (H ++ (W ++ (a ++ (b ++ (c ++ (d ++ (p ++ q)))))))))) := by
  classical
  exact List.perm_iff_count.mpr (fun x => by simp only [List.count_append]; omega)
theorem pmX_w {α : Type} {O N S R F H W a b c d K p q : List α} : (O ++ (N ++ (S ++ (R ++ (F ++ (H ++ (W ++ (a ++ (b ++ (c ++ (d ++ (K ++ (p ++ q))))))))))))).Perm ((S ++ (R ++ K)) ++ (O ++ (N ++ (F ++ (H ++ (W ++ (a ++ (b ++ (c ++ (d ++ (p ++ q))))))))))) := by
  classical
  exact List.perm_iff_count.mpr (fun x => by simp only [List.count_append]; omega)
theorem pmH_o {α : Type} {O N S R F H W a b c d K p q : List α} : (O ++ (N ++ (S ++ (R ++ (F ++ (H ++ (W ++ (a ++ (b ++ (c ++ (d ++ (K ++ (p ++ q))))))))))))).Perm ((O ++ (R ++ K)) ++ (N ++ (S ++ (F ++ (H ++ (W ++ (a ++ (b ++ (c ++ (d ++ (p ++ q))))))))))) := by
  classical
  exact List.perm_iff_count.mpr (fun x => by simp only [List.count_append]; omega)
theorem pmX_o {α : Type} {O N S R F H W a b c d K p q : List α} : (O ++ (N ++ (S ++ (R ++ (F ++ (H ++ (W ++ (a ++ (b ++ (c ++ (d ++ (K ++ (p ++ q))))))))))))).Perm ((R ++ K) ++ (O ++ (N ++ (S ++ (F ++ (H ++ (W ++ (a ++ (b ++ (c ++ (d ++ (p ++ q)))))))))))) := by
  classical
  exact List.perm_iff_count.mpr (fun x => by simp only [List.count_append]; omega)
theorem pmH_p {α : Type} {O N S R F H W a b c d K p q : List α} : (O ++ (N ++ (S ++ (R ++ (F ++ (H ++ (W ++ (a ++ (b ++ (c ++ (d ++ (K ++ (p ++ q))))))))))))).Perm ((O ++ (R ++ q)) ++ (N ++ (S ++ (F ++ (H ++ (W ++ (a ++ (b ++ (c ++ (d ++ (K ++ p))))))))))) := by
  classical
  exact List.perm_iff_count.mpr (fun x => by simp only [List.count_append]; omega)
theorem pmX_p {α : Type} {O N S R F H W a b c d K p q : List α} : (O ++ (N ++ (S ++ (R ++ (F ++ (H ++ (W ++ (a ++ (b ++ (c ++ (d ++ (K ++ (p ++ q))))))))))))).Perm ((R ++ q) ++ (O ++ (N ++ (S ++ (F ++ (H ++ (W ++ (a ++ (b ++ (c ++ (d ++ (K ++ p)))))))))))) := by
  classical
  exact List.perm_iff_count.mpr (fun x => by simp only [List.count_append]; omega)
theorem pmH_l {α : Type} {O N S R F H W a b c d K p q : List α} : (O ++ (N ++ (S ++ (R ++ (F ++ (H ++ (W ++ (a ++ (b ++ (c ++ (d ++ (K ++ (p ++ q))))))))))))).Perm ((O ++ (S ++ (R ++ (H ++ (b ++ (d ++ (p ++ q))))))) ++ (N ++ (F ++ (W ++ (a ++ (c ++ K)))))) := by
  classical
  exact List.perm_iff_count.mpr (fun x => by simp only [List.count_append]; omega)
theorem pmX_l {α : Type} {O N S R F H W a b c d K p q : List α} : (O ++ (N ++ (S ++ (R ++ (F ++ (H ++ (W ++ (a ++ (b ++ (c ++ (d ++ (K ++ (p ++ q))))))))))))).Perm ((S ++ (R ++ (H ++ (b ++ (d ++ (p ++ q)))))) ++ (O ++ (N ++ (F ++ (W ++ (a ++ (c ++ K))))))) := by
  classical
  exact List.perm_iff_count.mpr (fun x => by simp only [List.count_append]; omega)
theorem pmM {α : Type} {O N S R F H W a b c d K p q : List α} : (O ++ (N ++ (S ++ (R ++ (F ++ (H ++ (W ++ (a ++ (b ++ (c ++ (d ++ (K ++ (p ++ q))))))))))))).Perm (N ++ (O ++ (S ++ (R ++ (F ++ (H ++ (W ++ (a ++ (b ++ (c ++ (d ++ (K ++ (p ++ q))))))))))))) := by
  classical
  exact List.perm_iff_count.mpr (fun x => by simp only [List.count_append]; omega)
theorem and63 (x : Int32) : ∃ j, j < 64 ∧ x &&& nI 63 = nI j := pk_andE x 6 (by decide)
theorem sub6 {L i : Nat} (hL : L < 10000) (hi : i < 10000) (h : ¬ nI L - nI 6 < nI i) : i + 6 ≤ L := by
  rcases Nat.lt_or_ge L 6 with q | q
  · exfalso
    apply h
    have h1 : nI L - nI 6 < 0 := (show ∀ L, L < 6 → nI L - nI 6 < 0 by decide) L q
    exact Int32.lt_of_lt_of_le h1 (nI_pos' (by omega))
  · rw [pk_sub q] at h
    have := Nat.not_lt.mp (fun z => h ((zq_lt (by omega) (by omega)).mpr z))
    omega
/-- the law keeps: M bounds what the states count -/
def LI (M : Nat) (g g1 g2 : Nat → Nat → Nat) (gh : Nat → Nat → Nat → Nat) (nx ct f1 f2 n : Nat) (v : Nat → Nat) (tx ip : Nat → Int32) (w σ : Nat → Nat) (h s2 : Nat → Nat → Nat) : Prop :=
  (Rep g σ ∧ Inv M σ ∧ σ 0 ≤ 9999) ∧
  (nx < 10 ∧ ct ≤ 10 ∧ w 5 = ct ∧ ∀ i, i < ct → Rep (gh ((nx + 10 - ct + i) % 10)) (h i) ∧ Inv M (h i) ∧ h i 0 ≤ 9999) ∧
  (f1 ≤ 1 ∧ f2 ≤ 1 ∧ w 7 = f1 + 2 * f2 ∧ (f1 = 1 → Rep g1 (s2 0) ∧ Inv M (s2 0) ∧ s2 0 0 ≤ 9999) ∧ (f2 = 1 → Rep g2 (s2 1) ∧ Inv M (s2 1) ∧ s2 1 0 ≤ 9999)) ∧
  (v 1 = w 9 ∧ w 9 ≤ 600 ∧ v 2 = w 12 ∧ ∀ j, j < w 9 → tx j = ip j) ∧
  (n = w 11 ∧ n ≤ 64)
section LIL
variable {M N : Nat} {g g1 g2 : Nat → Nat → Nat} {gh : Nat → Nat → Nat → Nat} {nx ct f1 f2 n : Nat} {v : Nat → Nat} {tx ip : Nat → Int32} {w σ : Nat → Nat} {h s2 : Nat → Nat → Nat}
theorem Inv.mo (h : Inv M σ) (h1 : M ≤ N) (h2 : N < 1073741824) : Inv N σ := h.mono h1 h2
theorem LI.hist (H : LI M g g1 g2 gh nx ct f1 f2 n v tx ip w σ h s2) (h1 : M ≤ N) (h2 : N < 1073741824) : nx < 10 ∧ ct ≤ 10 ∧ w 5 = ct ∧ ∀ i, i < ct → Rep (gh ((nx + 10 - ct + i) % 10)) (h i) ∧ Inv N (h i) ∧ h i 0 ≤ 9999 :=
  ⟨H.2.1.1, H.2.1.2.1, H.2.1.2.2.1, fun i hi => ⟨(H.2.1.2.2.2 i hi).1, (H.2.1.2.2.2 i hi).2.1.mono h1 h2, (H.2.1.2.2.2 i hi).2.2⟩⟩
theorem LI.slot (H : LI M g g1 g2 gh nx ct f1 f2 n v tx ip w σ h s2) (h1 : M ≤ N) (h2 : N < 1073741824) : f1 ≤ 1 ∧ f2 ≤ 1 ∧ w 7 = f1 + 2 * f2 ∧ (f1 = 1 → Rep g1 (s2 0) ∧ Inv N (s2 0) ∧ s2 0 0 ≤ 9999) ∧ (f2 = 1 → Rep g2 (s2 1) ∧ Inv N (s2 1) ∧ s2 1 0 ≤ 9999) :=
  ⟨H.2.2.1.1, H.2.2.1.2.1, H.2.2.1.2.2.1, fun q => ⟨(H.2.2.1.2.2.2.1 q).1, (H.2.2.1.2.2.2.1 q).2.1.mono h1 h2, (H.2.2.1.2.2.2.1 q).2.2⟩, fun q => ⟨(H.2.2.1.2.2.2.2 q).1, (H.2.2.1.2.2.2.2 q).2.1.mono h1 h2, (H.2.2.1.2.2.2.2 q).2.2⟩⟩
/-- a query -/
theorem LI.mono (H : LI M g g1 g2 gh nx ct f1 f2 n v tx ip w σ h s2) (h1 : M ≤ N) (h2 : N < 1073741824) : LI N g g1 g2 gh nx ct f1 f2 n v tx ip w σ h s2 :=
  ⟨⟨H.1.1, H.1.2.1.mono h1 h2, H.1.2.2⟩, H.hist h1 h2, H.slot h1 h2, H.2.2.2.1, H.2.2.2.2⟩
/-- a change: the state before it goes into the history -/
theorem LI.push (H : LI M g g1 g2 gh nx ct f1 f2 n v tx ip w σ h s2) (h1 : M ≤ N) (h2 : N < 1073741824) {gq g' : Nat → Nat → Nat} {τ : Nat → Nat} (hq : Rep gq σ) (hg : Rep g' τ) (hv : Inv N τ) (h0 : τ 0 ≤ 9999) : LI N g' g1 g2 (upS gh nx gq) (fwN nx) (mnN ct) f1 f2 n v tx ip (upN (upN w 5 (rmN (w 5))) 1 0) τ (rmH h (w 5) σ) s2 := by
  have hs := H.slot h1 h2
  obtain ⟨k1, k2, k3, k4⟩ := H.hist h1 h2
  refine ⟨⟨hg, hv, h0⟩, ⟨?_, ?_, ?_, ?_⟩, hs, H.2.2.2.1, H.2.2.2.2⟩
  · simp only [fwN]; split <;> omega
  · simp only [mnN]; split <;> omega
  · show rmN (w 5) = mnN ct
    rw [k3]
    simp only [rmN, mnN]
    split <;> split <;> omega
  · intro i hi
    rw [k3]
    by_cases q : ct = 10
    · have e1 : mnN ct = 10 := by simp only [mnN]; rw [if_pos (by omega)]
      rw [e1] at hi ⊢
      simp only [rmH]
      rw [if_pos q]
      by_cases q9 : i = 9
      · rw [if_pos q9, show (fwN nx + 10 - 10 + i) % 10 = nx by simp only [fwN]; split <;> omega, upS_s]
        exact ⟨hq, H.1.2.1.mono h1 h2, H.1.2.2⟩
      · rw [if_neg q9, upS_n (by simp only [fwN]; split <;> omega), show (fwN nx + 10 - 10 + i) % 10 = (nx + 10 - ct + (i + 1)) % 10 by simp only [fwN]; split <;> omega]
        exact k4 (i + 1) (by omega)
    · have e1 : mnN ct = ct + 1 := by simp only [mnN]; rw [if_neg (by omega)]
      rw [e1] at hi ⊢
      simp only [rmH]
      rw [if_neg q]
      by_cases q9 : i = ct
      · rw [if_pos q9, show (fwN nx + 10 - (ct + 1) + i) % 10 = nx by simp only [fwN]; split <;> omega, upS_s]
        exact ⟨hq, H.1.2.1.mono h1 h2, H.1.2.2⟩
      · rw [if_neg q9, upS_n (by simp only [fwN]; split <;> omega), show (fwN nx + 10 - (ct + 1) + i) % 10 = (nx + 10 - ct + i) % 10 by simp only [fwN]; split <;> omega]
        exact k4 i (by omega)
theorem LI.undo (H : LI M g g1 g2 gh nx ct f1 f2 n v tx ip w σ h s2) (h1 : M ≤ N) (h2 : N < 1073741824) (hc : 1 ≤ ct) {g' : Nat → Nat → Nat} (hg : Rep g' (h (ct - 1))) : LI N g' g1 g2 gh (bkN nx) (ct - 1) f1 f2 n v tx ip (upN (upN w 5 (w 5 - 1)) 1 0) (h (w 5 - 1)) h s2 := by
  have hs := H.slot h1 h2
  obtain ⟨k1, k2, k3, k4⟩ := H.hist h1 h2
  rw [k3]
  have k5 := k4 (ct - 1) (by omega)
  refine ⟨⟨hg, k5.2.1, k5.2.2⟩, ⟨?_, by omega, rfl, ?_⟩, hs, H.2.2.2.1, H.2.2.2.2⟩
  · simp only [bkN]; split <;> omega
  · intro i hi
    rw [show (bkN nx + 10 - (ct - 1) + i) % 10 = (nx + 10 - ct + i) % 10 by simp only [bkN]; split <;> omega]
    exact k4 i (by omega)
theorem LI.top (H : LI M g g1 g2 gh nx ct f1 f2 n v tx ip w σ h s2) (hc : 1 ≤ ct) : Rep (gh (bkN nx)) (h (ct - 1)) ∧ Inv M (h (ct - 1)) := by
  obtain ⟨k1, k2, k3, k4⟩ := H.2.1
  have k5 := k4 (ct - 1) (by omega)
  rw [show (nx + 10 - ct + (ct - 1)) % 10 = bkN nx by simp only [bkN]; split <;> omega] at k5
  exact ⟨k5.1, k5.2.1⟩
variable {gp' g' : Nat → Nat → Nat} {v' w' τ : Nat → Nat}
theorem LI.w1 (H : LI M g g1 g2 gh nx ct f1 f2 n v tx ip w σ h s2) (x : Nat) : LI M g g1 g2 gh nx ct f1 f2 n v tx ip (upN w 1 x) σ h s2 := H
theorem LI.wr (H : LI M g g1 g2 gh nx ct f1 f2 n v tx ip w σ h s2) (h1 : M ≤ N) (h2 : N < 1073741824) {n' : Nat} (hn : n' ≤ 64) : LI N g g1 g2 gh nx ct f1 f2 n' v tx ip (upN (upN w 11 n') 1 0) σ h s2 := ⟨(H.mono h1 h2).1, H.hist h1 h2, H.slot h1 h2, H.2.2.2.1, ⟨rfl, hn⟩⟩
theorem LI.sav0 (H : LI M g g1 g2 gh nx ct f1 f2 n v tx ip w σ h s2) (h1 : M ≤ N) (h2 : N < 1073741824) (hg : Rep g' σ) : LI N g g' g2 gh nx ct 1 f2 n v tx ip (upN (upN w 7 (svO (w 7) 0)) 1 0) σ h (svH s2 0 σ) := by
  obtain ⟨k1, k2, k3, k4, k5⟩ := H.slot h1 h2
  have H1 := (H.mono h1 h2).1
  refine ⟨H1, H.hist h1 h2, ⟨Nat.le_refl _, k2, ?_, fun _ => ⟨hg, H1.2.1, H1.2.2⟩, k5⟩, H.2.2.2.1, H.2.2.2.2⟩
  show svO (w 7) 0 = 1 + 2 * f2
  rw [k3]
  exact (show ∀ a, a ≤ 1 → ∀ b, b ≤ 1 → svO (a + 2 * b) 0 = 1 + 2 * b by decide) f1 k1 f2 k2
theorem LI.sav1 (H : LI M g g1 g2 gh nx ct f1 f2 n v tx ip w σ h s2) (h1 : M ≤ N) (h2 : N < 1073741824) (hg : Rep g' σ) : LI N g g1 g' gh nx ct f1 1 n v tx ip (upN (upN w 7 (svO (w 7) 1)) 1 0) σ h (svH s2 1 σ) := by
  obtain ⟨k1, k2, k3, k4, k5⟩ := H.slot h1 h2
  have H1 := (H.mono h1 h2).1
  refine ⟨H1, H.hist h1 h2, ⟨k1, Nat.le_refl _, ?_, k4, fun _ => ⟨hg, H1.2.1, H1.2.2⟩⟩, H.2.2.2.1, H.2.2.2.2⟩
  show svO (w 7) 1 = f1 + 2 * 1
  rw [k3]
  exact (show ∀ a, a ≤ 1 → ∀ b, b ≤ 1 → svO (a + 2 * b) 1 = a + 2 * 1 by decide) f1 k1 f2 k2
theorem LI.ld (H : LI M g g1 g2 gh nx ct f1 f2 n v tx ip w σ h s2) (h1 : 660020 ≤ N) (h2 : N < 1073741824) {q : Nat} (hq : q ≤ 600) (hr : Rep g' τ) (hv : Inv (20 + 1100 * q) τ) (h0 : τ 0 ≤ 9999) (hv1 : v' 1 = 0) (hv2 : v' 2 = 0) (hy : Fy (upN (upN (upN (upN (upN w 9 0) 12 0) 5 0) 7 0) 1 0) w') : LI N g' g1 g2 gh nx 0 0 0 n v' tx ip w' τ h s2 := by
  have e5 : w' 5 = 0 := hy 5 (by decide)
  have e7 : w' 7 = 0 := hy 7 (by decide)
  have e9 : w' 9 = 0 := hy 9 (by decide)
  have e12 : w' 12 = 0 := hy 12 (by decide)
  have e11 : w' 11 = w 11 := hy 11 (by decide)
  refine ⟨⟨hr, hv.mono (by omega) h2, h0⟩, ⟨H.2.1.1, by decide, e5, fun i hi => absurd hi (Nat.not_lt_zero i)⟩, ⟨by decide, by decide, by rw [e7], fun q => absurd q (by decide), fun q => absurd q (by decide)⟩, ⟨by rw [hv1, e9], by rw [e9]; decide, by rw [hv2, e12], fun j hj => ?_⟩, ⟨by rw [e11]; exact H.2.2.2.2.1, H.2.2.2.2.2⟩⟩
  rw [e9] at hj
  exact absurd hj (Nat.not_lt_zero j)
theorem LI.lerr (H : LI M g g1 g2 gh nx ct f1 f2 n v tx ip w σ h s2) (h1 : M ≤ N) (h2 : N < 1073741824) {c0 : Nat} (hv1 : v' 1 = 0) (hv2 : v' 2 = c0) (hy : Fy (upN (upN (upN w 9 0) 12 c0) 1 2) w') : LI N g g1 g2 gh nx ct f1 f2 n v' tx ip w' σ h s2 := by
  have e5 : w' 5 = w 5 := hy 5 (by decide)
  have e7 : w' 7 = w 7 := hy 7 (by decide)
  have e9 : w' 9 = 0 := hy 9 (by decide)
  have e12 : w' 12 = c0 := hy 12 (by decide)
  have e11 : w' 11 = w 11 := hy 11 (by decide)
  obtain ⟨k1, k2, k3, k4⟩ := H.hist h1 h2
  obtain ⟨j1, j2, j3, j4⟩ := H.slot h1 h2
  refine ⟨(H.mono h1 h2).1, ⟨k1, k2, by rw [e5]; exact k3, k4⟩, ⟨j1, j2, by rw [e7]; exact j3, j4⟩, ⟨by rw [hv1, e9], by rw [e9]; decide, by rw [hv2, e12], fun j hj => ?_⟩, ⟨by rw [e11]; exact H.2.2.2.2.1, H.2.2.2.2.2⟩⟩
  rw [e9] at hj
  exact absurd hj (Nat.not_lt_zero j)
theorem fd_eq {t1 t2 : Nat → Int32} {a : Nat} (x : Int32) (h : ∀ j, j < a → t1 j = t2 j) : ∀ j, j < a + 4 → fdF t1 a x j = fdF t2 a x j := by
  intro j hj
  simp only [fdF, upd]
  repeat' split
  all_goals first | rfl | exact h j (by omega) | omega
theorem LI.app (H : LI M g g1 g2 gh nx ct f1 f2 n v tx ip w σ h s2) (h1 : M ≤ N) (h2 : N < 1073741824) (h5 : v 1 ≤ 580) (x1 x2 x3 x4 x5 : Int32) : LI N g g1 g2 gh nx ct f1 f2 n (upN v 1 (v 1 + 4 + 4 + 4 + 4 + 4)) (fdF (fdF (fdF (fdF (fdF tx (v 1) x1) (v 1 + 4) x2) (v 1 + 4 + 4) x3) (v 1 + 4 + 4 + 4) x4) (v 1 + 4 + 4 + 4 + 4) x5) (fdF (fdF (fdF (fdF (fdF ip (w 9) x1) (w 9 + 4) x2) (w 9 + 4 + 4) x3) (w 9 + 4 + 4 + 4) x4) (w 9 + 4 + 4 + 4 + 4) x5) (upN (upN w 9 (w 9 + 4 + 4 + 4 + 4 + 4)) 1 0) σ h s2 := by
  obtain ⟨a1, a2, a3, a4⟩ := H.2.2.2.1
  refine ⟨(H.mono h1 h2).1, H.hist h1 h2, H.slot h1 h2, ⟨?_, ?_, a3, ?_⟩, H.2.2.2.2⟩
  · show v 1 + 4 + 4 + 4 + 4 + 4 = w 9 + 4 + 4 + 4 + 4 + 4
    rw [a1]
  · show w 9 + 4 + 4 + 4 + 4 + 4 ≤ 600
    omega
  · show ∀ j, j < w 9 + 4 + 4 + 4 + 4 + 4 → _
    rw [a1]
    exact fd_eq x5 (fd_eq x4 (fd_eq x3 (fd_eq x2 (fd_eq x1 a4))))
end LIL
theorem wTrn_le (σ ot : Nat → Nat) (b : Nat) : (wTrn σ (ot, 0) b).2 ≤ 12 := Nat.succ_le_succ (wNum_le (B := 9) (Nat.succ_le_succ (wNum_le (B := 6) (Nat.succ_le_succ (wNum_le (B := 3) (Nat.succ_le_succ (wNum_le (B := 0) (Nat.le_refl 0))))))))
theorem wsF_nn (σ : Nat → Nat) (h : σ 0 * σ 2 < 2147483648) : nb32 (wsF σ).toNat := by
  unfold wsF
  split
  · unfold nb32
    decide
  · exact fdiv_nn (by omega) h
section LR
variable {p : Program} {l : Launch} {e : Env} {R : Room} {s : State} {m : MethodId} {args : Array Value} {below : List Frame} {meth : Method} {c : Code} {cc : ByteArray} {nL : Nat} {Ts : List Cond} {own : String} {D : va_G} {tys : List (ClassId × FieldType)} {A : Nat → Prop} {cells slots : Nat} {Q : State → Prop} {ws : va_W} {lv : List (Nat × Value)} {pc : Nat} {st : List Value}
theorem z_slen (C : zC p s m args c cc nL Ts own D tys A) {b L : Nat} {xs : Nat → Int32} (hX : va_X b L xs s s.heap) (hb : b < s.heap.size) (hA : ¬ A b) (hdg : decode cc pc = .ok (.arraylength, 1)) (k : zW p l e R s m args below meth c nL D A cells slots Q ws lv (pc + 1) (.int (nI L) :: st)) : zW p l e R s m args below meth c nL D A cells slots Q ws lv pc (.ref b :: st) := fun H locs ls hP hD hS hl => va_slen C.1 C.2.1 hX hb hA hS hdg (k H locs ls hP hD hS hl)
theorem z_sld (C : zC p s m args c cc nL Ts own D tys A) {b L : Nat} {xs : Nat → Int32} (hX : va_X b L xs s s.heap) (hb : b < s.heap.size) (hA : ¬ A b) {i : Nat} {x : Int32} (hi : i < L) (hL : L < 2147483648) (hx : xs i = x) (hdg : decode cc pc = .ok (.iaload, 1)) (k : zW p l e R s m args below meth c nL D A cells slots Q ws lv (pc + 1) (.int x :: st)) : zW p l e R s m args below meth c nL D A cells slots Q ws lv pc (.int (nI i) :: .ref b :: st) := fun H locs ls hP hD hS hl => va_sld C.1 C.2.1 hX hb hA hS (vp_in_nI hi hL) hdg (by rw [nI_clamp (Nat.lt_trans hi hL), hx]; exact k H locs ls hP hD hS hl)
theorem lcmp_self (x : Int64) : lg_cmp x x = nI 0 := by
  unfold lg_cmp
  rw [if_neg (fun h : x > x => Int64.lt_irrefl h), if_pos rfl]
  rfl
theorem z_lcmpE (C : zC p s m args c cc nL Ts own D tys A) {x y : Int64} (hxy : x = y) (hdg : decode cc pc = .ok (.lcmp, 1)) (k : zW p l e R s m args below meth c nL D A cells slots Q ws lv (pc + 1) (.int (nI 0) :: st)) : zW p l e R s m args below meth c nL D A cells slots Q ws lv pc (.long y :: .long x :: st) := by
  subst hxy
  intro H locs ls hP hD hS hl
  refine W.lcmp C.1 C.2.1 hdg ?_
  rw [lcmp_self]
  exact k H locs ls hP hD hS hl
theorem z_icmpE (C : zC p s m args c cc nL Ts own D tys A) {x y : Int32} {off : Int} (tgt : Nat) (hxy : x = y) (hdg : decode cc pc = .ok (.if_icmp .eq off, 3)) (ht : (pc : Int) + off = (tgt : Int)) (k : zW p l e R s m args below meth c nL D A cells slots Q ws lv tgt st) : zW p l e R s m args below meth c nL D A cells slots Q ws lv pc (.int y :: .int x :: st) := z_icmp_eq C tgt hdg ht (fun _ => k) (fun q => absurd hxy q)
theorem z_dstore (C : zC p s m args c cc nL Ts own D tys A) {i : Nat} {x : UInt64} (lv' : List (Nat × Value)) (hdg : decode cc pc = .ok (.dstore i, 2)) (hn : i + 1 < nL) (hl2 : (i, Value.double x) :: lv.filter (fun q => !(q.1 == i) && (!(q.1 == i + 1) && !(q.1 + 1 == i && q.2.category == 2))) = lv') (k : zW p l e R s m args below meth c nL D A cells slots Q ws lv' (pc + 2) st) : zW p l e R s m args below meth c nL D A cells slots Q ws lv pc (.double x :: st) := fun H locs ls hP hD hS hl => lv_dstore C.1 C.2.1 hdg hl hn hl2 (fun ls2 hl3 => k H locs ls2 hP hD hS hl3)
theorem z_tableIn (C : zC p s m args c cc nL Ts own D tys A) {dflt lo hi : Int} {offs : Array Int} {len : Nat} {x : Int32} {off : Int} {tgt : Nat} (hdg : decode cc pc = .ok (.tableswitch dflt lo hi offs, len)) (h1 : ¬ x.toInt < lo) (h2 : ¬ hi < x.toInt) (ho : offs[(x.toInt - lo).toNat]? = some off) (ht : (pc : Int) + off = (tgt : Int)) (k : zW p l e R s m args below meth c nL D A cells slots Q ws lv tgt st) : zW p l e R s m args below meth c nL D A cells slots Q ws lv pc (.int x :: st) := fun H locs ls hP hD hS hl => lv_tableIn C.1 C.2.1 hdg h1 h2 ho ht (k H locs ls hP hD hS hl)
theorem z_tableOut (C : zC p s m args c cc nL Ts own D tys A) {dflt lo hi : Int} {offs : Array Int} {len : Nat} {x : Int32} {tgt : Nat} (hdg : decode cc pc = .ok (.tableswitch dflt lo hi offs, len)) (h : x.toInt < lo ∨ hi < x.toInt) (ht : (pc : Int) + dflt = (tgt : Int)) (k : zW p l e R s m args below meth c nL D A cells slots Q ws lv tgt st) : zW p l e R s m args below meth c nL D A cells slots Q ws lv pc (.int x :: st) := fun H locs ls hP hD hS hl => lv_tableOut C.1 C.2.1 hdg h ht (k H locs ls hP hD hS hl)
end LR
end LAW1
