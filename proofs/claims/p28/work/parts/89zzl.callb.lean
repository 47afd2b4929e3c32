/-! laws, the calls of the class -/
/-- the outcomes of all rows -/
def z_ros (c : Nat) (B : Nat → Nat) (q pr en sh ch m n : Nat) (S : Nat → Int32) (A : Int32) (y u : Nat → Nat) : Prop := ∀ r, r < m ^ n → z_oJ c B q pr en sh n ch z_w1 (z_yS S (z_rw m n r)) (z_nS S A (z_rw m n r)) (y r) (u r)
def z_bre (law c : Nat) (B : Nat → Nat) (q pr en sh ch m n : Nat) (S : Nat → Int32) (A : Int32) (x : Int) : Prop := ∃ y u : Nat → Nat, z_ros c B q pr en sh ch m n S A y u ∧ z_ft (z_brP law B q m n S A y u) (z_brK law m n) x
/-- the laws hold -/
def z_kpY (laws : Nat) (B : Nat → Nat) (q m n : Nat) (S : Nat → Int32) (A : Int32) (y u : Nat → Nat) : Prop := ∀ law, law < 5 → laws / 2 ^ law % 2 = 1 → z_ft (z_brP law B q m n S A y u) (z_brK law m n) (-2)
def z_kpW (laws c : Nat) (B : Nat → Nat) (q pr en sh ch m n : Nat) (S : Nat → Int32) (A : Int32) : Prop := ∀ law, law < 5 → laws / 2 ^ law % 2 = 1 → z_bre law c B q pr en sh ch m n S A (-2)
section ZKP
variable {laws law c q pr en sh ch m n : Nat} {B : Nat → Nat} {S : Nat → Int32} {A : Int32} {y u y2 u2 : Nat → Nat} {x x2 : Int}
theorem z_ros.U (q1 : 1 ≤ q) (h : z_ros c B q pr en sh ch m n S A y u) (h2 : z_ros c B q pr en sh ch m n S A y2 u2) : ∀ r, r < m ^ n → y r = y2 r ∧ u r = u2 r := fun r hr => z_oJU (h r hr) (h2 r hr) q1
theorem z_breU (q1 : 1 ≤ q) (m6 : m ≤ 6) (n3 : n ≤ 3) (h : z_bre law c B q pr en sh ch m n S A x) (h2 : z_bre law c B q pr en sh ch m n S A x2) : x = x2 := by
  obtain ⟨y, u, a1, a2⟩ := h
  obtain ⟨y2, u2, b1, b2⟩ := h2
  exact z_ftU a2 b2 (z_brC m6 n3 (a1.U q1 b1))
theorem z_kpWU (q1 : 1 ≤ q) (m6 : m ≤ 6) (n3 : n ≤ 3) (h : z_ros c B q pr en sh ch m n S A y u) : z_kpW laws c B q pr en sh ch m n S A ↔ z_kpY laws B q m n S A y u := by
  constructor
  · intro h2 law hl hb
    obtain ⟨y2, u2, a1, e⟩ := h2 law hl hb
    rcases e with ⟨e1, e2⟩ | ⟨r, e1, e2, _⟩
    · exact Or.inl ⟨e1, fun r hr g => e2 r hr ((z_brC m6 n3 (a1.U q1 h) r hr).mpr g)⟩
    · omega
  · exact fun g law hl hb => ⟨y, u, h, g law hl hb⟩
end ZKP
/-- an answer of rows -/
def z_aB (v r : Prop) (m : Nat) (P : Prop) (x : Int) : Prop := (x = -1 ∧ ¬ (v ∧ r)) ∨ ((v ∧ r) ∧ ((x = -4 ∧ 6 < m) ∨ (m ≤ 6 ∧ P)))
theorem z_aBU {v v2 r : Prop} {m : Nat} {P P2 : Prop} {x x2 : Int} (h : z_aB v r m P x) (h2 : z_aB v2 r m P2 x2) (ev : v ↔ v2) (e : v → r → m ≤ 6 → P → P2 → x = x2) : x = x2 := by
  rcases h with ⟨h1, n1⟩ | ⟨⟨h1, r1⟩, h3⟩
  · rcases h2 with ⟨g1, _⟩ | ⟨⟨g1, g2⟩, _⟩
    · exact h1.trans g1.symm
    · exact absurd ⟨ev.mpr g1, g2⟩ n1
  · rcases h2 with ⟨_, g2⟩ | ⟨_, g3⟩
    · exact absurd ⟨ev.mp h1, r1⟩ g2
    · rcases h3 with ⟨h3, h4⟩ | ⟨h3, h4⟩
      · rcases g3 with ⟨g3, g4⟩ | ⟨g3, g4⟩
        · exact h3.trans g3.symm
        · omega
      · rcases g3 with ⟨g3, g4⟩ | ⟨g3, g4⟩
        · omega
        · exact e h1 r1 h3 h4 g4
theorem zUB145 {T : List zK} {d : Nat} {K : Option Value → zH → Prop} {a0 : Nat} {p1 : Int32} {M0 : zH} {N q t m pr en sa n : Nat} {B : Nat → Nat} {S : Nat → Int32} {A : Int32} {o : Nat → Int32} (m16 : 1 ≤ m ∧ m ≤ 6) (n13 : 1 ≤ n ∧ n ≤ 3) (u1 : 1 ≤ p1.toInt ∧ p1.toInt ≤ 31) (ho : z_Ar M0 18 = o) (hob : ∀ r, r < m ^ n → 0 ≤ (o r).toInt ∧ (o r).toInt < 1048576) (hud : ∀ r, r < m ^ n → (o r).toInt.toNat % 1024 < 2 ^ q ∧ (o r).toInt.toNat / 1024 < 2 ^ q) (kk : ∀ (x : Int32) (M1 : zH), z_X T zw145 M0 M1 → (∃ F G : Nat → Nat, (∀ j, j < n → F j < m) ∧ z_TSG T M1 a0 N q t m pr en sa n B F G S A) → ((x.toInt = 1 ∧ z_kpY p1.toInt.toNat B q m n S A (fun r => (o r).toInt.toNat % 1024) (fun r => (o r).toInt.toNat / 1024)) ∨ (x.toInt = 0 ∧ ¬ z_kpY p1.toInt.toNat B q m n S A (fun r => (o r).toInt.toNat % 1024) (fun r => (o r).toInt.toNat / 1024))) → K (some (.int x)) M1) : ∀ nn : Nat, (∀ (M : zH) (b3 : Int32), z_X T zw145 M0 M → (∃ F G : Nat → Nat, (∀ j, j < n → F j < m) ∧ z_TSG T M a0 N q t m pr en sa n B F G S A) → (0 ≤ b3.toInt ∧ b3.toInt ≤ 5) → (∀ law, law < b3.toInt.toNat → p1.toInt.toNat / 2 ^ law % 2 = 1 → z_ft (z_brP law B q m n S A (fun r => (o r).toInt.toNat % 1024) (fun r => (o r).toInt.toNat / 1024)) (z_brK law m n) (-2)) → (5 - b3.toInt) < (nn : Int) → z_ev (d + 5) 145 2 [some (.ref a0), some (.int p1), some (.ref 18), some (.int b3)] [] M K) := by
  intro nn
  induction nn with
  | zero => exact by intros; exfalso; omega
  | succ nn ih =>
    intro M b3 X hSx hb3 hI hE
    obtain ⟨F, G, hF, hS⟩ := id hSx
    have k0 := hS.2.1
    have g0 := X.1.p3 k0
    refine z_xP zt145 1 4 [some (.ref a0), some (.int p1), some (.ref 18), some (.int b3)] [.int 5, .int b3] rfl rfl ?_
    refine z_xJ zt145 2 rfl rfl (fun (h1 : 5 ≤ b3.toInt) => ?_) (fun (h1 : b3.toInt < 5) => ?_)
    · skip
      refine z_xP zt145 16 35 [some (.ref a0), some (.int p1), some (.ref 18), some (.int b3)] [.int 1] rfl rfl ?_
      exact z_xrz zt145 17 rfl zzr145 (by decide) (by decide) (kk 1 M X hSx (Or.inl ⟨rfl, fun law hl hb => hI law (by omega) hb⟩))
    refine z_xP zt145 3 9 [some (.ref a0), some (.int p1), some (.ref 18), some (.int b3)] [.int b3, .int p1] rfl rfl ?_
    refine z_xI zt145 4 rfl rfl (fun (x2 : Int32) (h2 : x2 = p1 >>> (b3 &&& 31)) => ?_) rfl
    refine z_xP zt145 5 11 [some (.ref a0), some (.int p1), some (.ref 18), some (.int b3)] [.int 1, .int x2] rfl rfl ?_
    refine z_xI zt145 6 rfl rfl (fun (x4 : Int32) (h4 : x4 = x2 &&& 1) => ?_) rfl
    have hbit := z_sbit h2 h4 (by omega) ⟨by omega, by omega⟩
    have hc := z_m2c (p1.toInt.toNat / 2 ^ b3.toInt.toNat)
    refine z_xZ zt145 7 rfl rfl (fun (h6 : x4.toInt = 0) => ?_) (fun (h6 : x4.toInt ≠ 0) => ?_)
    · skip
      refine z_xN zt145 14 rfl rfl (fun (x7 : Int32) (h8 : x7.toInt = b3.toInt + 1) => ?_) (z_pAdd rfl rfl (by omega) (by omega))
      show z_ev (d + 5) 145 31 [some (.ref a0), some (.int p1), some (.ref 18), some (.int x7)] [] M _
      refine z_xP zt145 15 2 [some (.ref a0), some (.int p1), some (.ref 18), some (.int x7)] [] rfl rfl ?_
      refine ih M x7 X hSx ⟨by omega, by omega⟩ (fun law hl hb => ?_) (by omega)
      by_cases c : law = b3.toInt.toNat
      · rw [c] at hb
        exfalso
        omega
      · exact hI law (by omega) hb
    have hb1 : p1.toInt.toNat / 2 ^ b3.toInt.toNat % 2 = 1 := by omega
    have f18 : T[18]? = some (.inr (18, 0, 216, (-2147483648), 2147483647)) := X.1.k rfl (by decide)
    refine z_xP zt145 8 18 [some (.ref a0), some (.int p1), some (.ref 18), some (.int b3)] [.ref 18, .int b3, .ref a0] rfl rfl ?_
    refine z_xcV (vs := [.ref a0, .int b3, .ref 18]) (r := []) (L2 := [some (.ref a0), some (.int b3), some (.ref 18), none]) zt145 9 rfl zo145 zzcV3_160 (Or.inl rfl) rfl X k0 rfl rfl rfl (Nat.le_of_ble_eq_true rfl) zzm136 (Nat.le_of_ble_eq_true rfl) rfl ?_
    refine zUC136 hSx m16 n13 ⟨by omega, by omega⟩ ((X.2.a f18 (by decide)).trans ho) hob hud (fun x14 M9 X10 hS9 hft => ?_)
    have X17 := X.go X10 (z_sb (by decide))
    show z_ev (d + 5) 145 21 [some (.ref a0), some (.int p1), some (.ref 18), some (.int b3)] [.int x14] M9 _
    refine z_xP zt145 10 23 [some (.ref a0), some (.int p1), some (.ref 18), some (.int b3)] [.int (-2), .int x14] rfl rfl ?_
    refine z_xJ zt145 11 rfl rfl (fun (h19 : x14.toInt = (-2)) => ?_) (fun (h19 : x14.toInt ≠ (-2)) => ?_)
    · skip
      refine z_xN zt145 14 rfl rfl (fun (x20 : Int32) (h21 : x20.toInt = b3.toInt + 1) => ?_) (z_pAdd rfl rfl (by omega) (by omega))
      show z_ev (d + 5) 145 31 [some (.ref a0), some (.int p1), some (.ref 18), some (.int x20)] [] M9 _
      refine z_xP zt145 15 2 [some (.ref a0), some (.int p1), some (.ref 18), some (.int x20)] [] rfl rfl ?_
      refine ih M9 x20 X17 hS9 ⟨by omega, by omega⟩ (fun law hl hb => ?_) (by omega)
      by_cases c : law = b3.toInt.toNat
      · rw [c, ← h19]
        exact hft
      · exact hI law (by omega) hb
    refine z_xP zt145 12 27 [some (.ref a0), some (.int p1), some (.ref 18), some (.int b3)] [.int 0] rfl rfl ?_
    exact z_xrz zt145 13 rfl zzr145 (by decide) (by decide) (kk 0 M9 X17 hS9 (Or.inr ⟨rfl, fun g => h19 (z_ftU hft (g _ (by omega) hb1) fun _ _ => Iff.rfl)⟩))
theorem zUC145 {T : List zK} {d : Nat} {K : Option Value → zH → Prop} {a0 : Nat} {p1 : Int32} {M0 : zH} {N q t m pr en sa n : Nat} {B : Nat → Nat} {S : Nat → Int32} {A : Int32} {o : Nat → Int32} (hS0 : (∃ F G : Nat → Nat, (∀ j, j < n → F j < m) ∧ z_TSG T M0 a0 N q t m pr en sa n B F G S A)) (m16 : 1 ≤ m ∧ m ≤ 6) (n13 : 1 ≤ n ∧ n ≤ 3) (u1 : 1 ≤ p1.toInt ∧ p1.toInt ≤ 31) (ho : z_Ar M0 18 = o) (hob : ∀ r, r < m ^ n → 0 ≤ (o r).toInt ∧ (o r).toInt < 1048576) (hud : ∀ r, r < m ^ n → (o r).toInt.toNat % 1024 < 2 ^ q ∧ (o r).toInt.toNat / 1024 < 2 ^ q) (kk : ∀ (x : Int32) (M1 : zH), z_X T zw145 M0 M1 → (∃ F G : Nat → Nat, (∀ j, j < n → F j < m) ∧ z_TSG T M1 a0 N q t m pr en sa n B F G S A) → ((x.toInt = 1 ∧ z_kpY p1.toInt.toNat B q m n S A (fun r => (o r).toInt.toNat % 1024) (fun r => (o r).toInt.toNat / 1024)) ∨ (x.toInt = 0 ∧ ¬ z_kpY p1.toInt.toNat B q m n S A (fun r => (o r).toInt.toNat % 1024) (fun r => (o r).toInt.toNat / 1024))) → K (some (.int x)) M1) : z_ev (d + 5) 145 0 [some (.ref a0), some (.int p1), some (.ref 18), none] [] M0 K := by
  obtain ⟨F, G, hF, hS⟩ := id hS0
  have X : z_X T zw145 M0 M0 := .refl hS.1.1
  refine z_xP zt145 0 2 [some (.ref a0), some (.int p1), some (.ref 18), some (.int 0)] [] rfl rfl ?_
  have q0 : ((0 : Int32)).toInt = 0 := rfl
  exact zUB145 m16 n13 u1 ho hob hud kk 8 M0 (0) X hS0 ⟨by omega, by omega⟩ (fun law hl => absurd hl (Nat.not_lt_zero law)) (by omega)
theorem zUB144 {T : List zK} {d : Nat} {K : Option Value → zH → Prop} {p1 p2 p3 V : Int32} {M0 : zH} (hW : z_W M0 T) (hG : z_GG T M0) (hch : z_chO M0) {b b2 NN sa q t m pr en : Nat} {B : Nat → Nat} {S : Nat → Int32} {A : Int32} (hD : z_ag T M0 p1 b b2 NN sa q t m pr en B S A) (hp1 : 0 ≤ p1.toInt ∧ p1.toInt ≤ 7) (n13 : 1 ≤ p2.toInt ∧ p2.toInt ≤ 3) (u3 : 1 ≤ p3.toInt ∧ p3.toInt ≤ 31) (m6 : m ≤ 6) (hV : z_F M0 4 5 = some (.int V)) (V20 : V.toInt ≤ 20) (hwy : ∀ i : Nat, (i : Int) < V.toInt → ∃ w : Nat, (4 ≤ (z_Ar M0 36 i).toInt.toNat + 4 ∧ (z_Ar M0 36 i).toInt.toNat + 4 ≤ 11) ∧ z_O M0 12 i = some w ∧ T[w]? = some (.inl ((z_Ar M0 36 i).toInt.toNat + 4, 0, 0, 0, 0)) ∧ z_F M0 w 1 = some (.int (z_Ar M0 37 i)) ∧ z_F M0 w 2 = some (.int (z_Ar M0 38 i))) (kk : ∀ (x : Int32) (M1 : zH), z_X T zw144 M0 M1 → z_ft (fun i => z_kpW p3.toInt.toNat ((z_Ar M0 36 i).toInt.toNat + 4) B q pr en (z_Ar M0 37 i).toInt.toNat (z_Ar M0 38 i).toInt.toNat m p2.toInt.toNat S A) V.toInt.toNat x.toInt → K (some (.int x)) M1) {b4 : Int32} : ∀ nn : Nat, (∀ (M : zH) (b5 : Int32), z_X T zw144 M0 M → (0 ≤ b5.toInt ∧ b5.toInt ≤ V.toInt) → (∀ i, i < b5.toInt.toNat → ¬ z_kpW p3.toInt.toNat ((z_Ar M0 36 i).toInt.toNat + 4) B q pr en (z_Ar M0 37 i).toInt.toNat (z_Ar M0 38 i).toInt.toNat m p2.toInt.toNat S A) → (20 - b5.toInt) < (nn : Int) → z_ev (d + 6) 144 32 [some (.ref 4), some (.int p1), some (.int p2), some (.int p3), some (.int b4), some (.int b5)] [] M K) := by
  intro nn
  induction nn with
  | zero => exact by intros; exfalso; omega
  | succ nn ih =>
    intro M b5 X hb5 hI hE
    obtain ⟨hAB, ⟨ob2, kb2, fN, hlz⟩, ⟨hsa, ksa, hSS⟩, hA, hm, hbk⟩ := id hD
    have g2 := hW.p3 kb2
    refine z_xP zt144 13 35 [some (.ref 4), some (.int p1), some (.int p2), some (.int p3), some (.int b4), some (.int b5)] [.ref 4, .int b5] rfl rfl ?_
    have f4 : T[4]? = some (.inl (0, 0, 0, 0, 0)) := X.1.k rfl (by decide)
    refine z_xgv zt144 14 rfl zo144 zzf0_188 X f4 (by decide) (X.2.f f4 (by decide) hV) ?_
    refine z_xJ zt144 15 rfl rfl (fun (h5 : V.toInt ≤ b5.toInt) => ?_) (fun (h5 : b5.toInt < V.toInt) => ?_)
    · skip
      refine z_xP zt144 39 90 [some (.ref 4), some (.int p1), some (.int p2), some (.int p3), some (.int b4), some (.int b5)] [.int (-2)] rfl rfl ?_
      exact z_xri zt144 40 rfl zzr144 (kk (-2) M X (Or.inl ⟨rfl, fun i hi => hI i (by omega)⟩))
    obtain ⟨w, hc, ow, kw, fs, fc⟩ := hwy b5.toInt.toNat (by omega)
    refine z_xP zt144 16 42 [some (.ref 4), some (.int p1), some (.int p2), some (.int p3), some (.int b4), some (.int b5)] [.ref 4] rfl rfl ?_
    refine z_xgX (b := 12) zt144 17 rfl zo144 zzf0_27 X f4 (by decide) (by decide) rfl ?_
    refine z_xP zt144 18 47 [some (.ref 4), some (.int p1), some (.int p2), some (.int p3), some (.int b4), some (.int b5)] [.int b5, .ref 12] rfl rfl ?_
    have f12 : T[12]? = some (.inr (12, 3, 20, 0, 0)) := X.1.k rfl (by decide)
    have ow1 : z_O M 12 b5.toNatClampNeg = some w := (congrFun (X.2.o f12 (by decide)) _).trans ow
    refine z_xalv zt144 19 rfl X f12 (by decide) (by decide) (by decide) (by omega) (by omega) ow1 ?_
    refine z_xP zt144 20 49 [some (.ref 4), some (.int p1), some (.int p2), some (.int p3), some (.int b4), some (.int b5)] [.ref 4, .ref w] rfl rfl ?_
    refine z_xgX (b := 11) zt144 21 rfl zo144 zzf0_22 X f4 (by decide) (by decide) rfl ?_
    refine z_xP zt144 22 53 [some (.ref 4), some (.int p1), some (.int p2), some (.int p3), some (.int b4), some (.int b5)] [.int p1, .ref 11, .ref w] rfl rfl ?_
    have f11 : T[11]? = some (.inr (11, 2, 8, 5, 0)) := X.1.k rfl (by decide)
    have ob21 : z_O M 11 p1.toNatClampNeg = some b2 := (congrFun (X.2.o f11 (by decide)) _).trans ob2
    refine z_xalv zt144 23 rfl X f11 (by decide) (by decide) (by decide) (by omega) (by omega) ob21 ?_
    refine z_xP zt144 24 56 [some (.ref 4), some (.int p1), some (.int p2), some (.int p3), some (.int b4), some (.int b5)] [.ref 4, .int p2, .ref b2, .ref w] rfl rfl ?_
    refine z_xgX (b := 18) zt144 25 rfl zo144 zzf0_48 X f4 (by decide) (by decide) rfl ?_
    refine z_xcV (vs := [.ref w, .ref b2, .int p2, .ref 18]) (r := []) (L2 := [some (.ref w), some (.ref b2), some (.int p2), some (.ref 18), none, none]) zt144 26 rfl zo144 zzcV0_277 (Or.inr rfl) rfl X kw (z_w8 (fun c => (([(4, 131), (10, 131), (7, 131), (5, 131), (11, 131), (8, 131), (6, 131), (9, 131)] : List (Nat × Nat)).find? fun t => t.1 == c) = some (c, 131)) rfl rfl rfl rfl rfl rfl rfl rfl hc) rfl rfl (Nat.le_of_ble_eq_true rfl) zzm131 (Nat.le_of_ble_eq_true rfl) rfl ?_
    have hw : ∀ k, k < 4 → ¬ (1000 + 100 * ((z_Ar M0 36 b5.toInt.toNat).toInt.toNat + 4) + k) ∈ zw144 := fun k hk hm => by
      have h : ∀ x ∈ zw144, x < 1400 := by decide
      have := h _ hm
      omega
    refine zUC131 X.1 hc kw kb2 n13 (hbk.ke X.2 (by decide)) (X.2.f kb2 (by decide) fN) (hAB.2.2.2.1.ke (fun _ _ h => h) X.2 (by decide)) (X.2.f hAB.2.2.2.1.1 (by decide) hsa) ksa (fun k hk => (congrFun (X.2.a ksa (by decide)) k).trans (hSS k hk)) hA (hlz.k3 hbk hW kb2 X.2) ((hch.cA.ke hW X.2 (by decide)).O X.1) ⟨hAB.2.2.2.2.2.2.1.2, hAB.2.2.2.2.2.2.2.1.2⟩ (X.2.f kw (hw 1 (by decide)) fs) (X.2.f kw (hw 2 (by decide)) fc) ⟨hm.1, m6⟩ (fun M27 X28 hSx hO => ?_)
    have X32 := X.go X28 (z_sb (by decide))
    show z_ev (d + 6) 144 62 [some (.ref 4), some (.int p1), some (.int p2), some (.int p3), some (.int b4), some (.int b5)] [] M27 _
    refine z_xP zt144 27 63 [some (.ref 4), some (.int p1), some (.int p2), some (.int p3), some (.int b4), some (.int b5)] [.ref 4] rfl rfl ?_
    refine z_xgX (b := 11) zt144 28 rfl zo144 zzf0_22 X32 f4 (by decide) (by decide) rfl ?_
    refine z_xP zt144 29 67 [some (.ref 4), some (.int p1), some (.int p2), some (.int p3), some (.int b4), some (.int b5)] [.int p1, .ref 11] rfl rfl ?_
    refine z_xalv zt144 30 rfl X32 f11 (by decide) (by decide) (by decide) (by omega) (by omega) ((congrFun (X28.2.o f11 (by decide)) _).trans ob21) ?_
    refine z_xP zt144 31 70 [some (.ref 4), some (.int p1), some (.int p2), some (.int p3), some (.int b4), some (.int b5)] [.ref 4, .int p3, .ref b2] rfl rfl ?_
    refine z_xgX (b := 18) zt144 32 rfl zo144 zzf0_48 X32 f4 (by decide) (by decide) rfl ?_
    refine z_xcV (vs := [.ref b2, .int p3, .ref 18]) (r := []) (L2 := [some (.ref b2), some (.int p3), some (.ref 18), none]) zt144 33 rfl zo144 zzcV0_284 (Or.inl rfl) rfl X32 kb2 rfl rfl rfl (Nat.le_of_ble_eq_true rfl) zzm145 (Nat.le_of_ble_eq_true rfl) rfl ?_
    refine zUC145 (o := z_Ar M27 18) hSx ⟨hm.1, m6⟩ ⟨by omega, by omega⟩ u3 rfl (fun r hr => (hO r hr).1) (fun r hr => by obtain ⟨_, _, _, _, _, hw⟩ := id (hO r hr).2; exact z_outL hw (by omega)) (fun x39 M34 X35 _ hk => ?_)
    have hros : z_ros ((z_Ar M0 36 b5.toInt.toNat).toInt.toNat + 4) B q pr en (z_Ar M0 37 b5.toInt.toNat).toInt.toNat (z_Ar M0 38 b5.toInt.toNat).toInt.toNat m p2.toInt.toNat S A (fun r => (z_Ar M27 18 r).toInt.toNat % 1024) (fun r => (z_Ar M27 18 r).toInt.toNat / 1024) := fun r hr => (hO r hr).2
    have hkW := z_kpWU (laws := p3.toInt.toNat) (B := B) (S := S) (A := A) (pr := pr) (en := en) (show 1 ≤ q by omega) m6 (show p2.toInt.toNat ≤ 3 by omega) hros
    have X42 := X32.go X35 (z_sb (by decide))
    show z_ev (d + 6) 144 76 [some (.ref 4), some (.int p1), some (.int p2), some (.int p3), some (.int b4), some (.int b5)] [.int x39] M34 _
    refine z_xZ zt144 34 rfl rfl (fun (h44 : x39.toInt = 0) => ?_) (fun (h44 : x39.toInt ≠ 0) => ?_)
    · skip
      refine z_xN zt144 37 rfl rfl (fun (x45 : Int32) (h46 : x45.toInt = b5.toInt + 1) => ?_) (z_pAdd rfl rfl (by omega) (by omega))
      show z_ev (d + 6) 144 85 [some (.ref 4), some (.int p1), some (.int p2), some (.int p3), some (.int b4), some (.int x45)] [] M34 _
      refine z_xP zt144 38 32 [some (.ref 4), some (.int p1), some (.int p2), some (.int p3), some (.int b4), some (.int x45)] [] rfl rfl ?_
      refine ih M34 x45 X42 ⟨by omega, by omega⟩ (fun i hi => ?_) (by omega)
      by_cases c : i = b5.toInt.toNat
      · rw [c]
        intro g
        rcases hk with ⟨hk, _⟩ | ⟨_, hk⟩
        · omega
        · exact hk (hkW.mp g)
      · exact hI i (by omega)
    refine z_xP zt144 35 81 [some (.ref 4), some (.int p1), some (.int p2), some (.int p3), some (.int b4), some (.int b5)] [.int b5] rfl rfl ?_
    refine z_xri zt144 36 rfl zzr144 (kk b5 M34 X42 (Or.inr ⟨b5.toInt.toNat, by omega, by omega, ?_, hI⟩))
    rcases hk with ⟨_, hk⟩ | ⟨hk, _⟩
    · exact hkW.mpr hk
    · omega
def z_vK (M : zH) (p1 : Int32) : Prop := 0 ≤ p1.toInt ∧ p1.toInt < (z_Fv M 4 3).toInt
theorem zUC144 {T : List zK} {d : Nat} {K : Option Value → zH → Prop} {p1 p2 p3 V : Int32} {M0 : zH} (hW : z_W M0 T) (hG : z_GG T M0) (hch : z_chO M0) {b b2 NN sa q t m pr en : Nat} {B : Nat → Nat} {S : Nat → Int32} {A : Int32} (hD : z_vK M0 p1 → z_ag T M0 p1 b b2 NN sa q t m pr en B S A) (hV : z_F M0 4 5 = some (.int V)) (V20 : V.toInt ≤ 20) (V0 : 0 ≤ V.toInt) (hwy : ∀ i : Nat, (i : Int) < V.toInt → ∃ w : Nat, (4 ≤ (z_Ar M0 36 i).toInt.toNat + 4 ∧ (z_Ar M0 36 i).toInt.toNat + 4 ≤ 11) ∧ z_O M0 12 i = some w ∧ T[w]? = some (.inl ((z_Ar M0 36 i).toInt.toNat + 4, 0, 0, 0, 0)) ∧ z_F M0 w 1 = some (.int (z_Ar M0 37 i)) ∧ z_F M0 w 2 = some (.int (z_Ar M0 38 i))) (kk : ∀ (x : Int32) (M1 : zH), z_X T zw144 M0 M1 → z_aB (z_vK M0 p1) ((1 ≤ p2.toInt ∧ p2.toInt ≤ 3) ∧ 1 ≤ p3.toInt ∧ p3.toInt ≤ 31) m (z_ft (fun i => z_kpW p3.toInt.toNat ((z_Ar M0 36 i).toInt.toNat + 4) B q pr en (z_Ar M0 37 i).toInt.toNat (z_Ar M0 38 i).toInt.toNat m p2.toInt.toNat S A) V.toInt.toNat x.toInt) x.toInt → K (some (.int x)) M1) : z_ev (d + 6) 144 0 [some (.ref 4), some (.int p1), some (.int p2), some (.int p3), none, none] [] M0 K := by
  have X : z_X T zw144 M0 M0 := .refl hW
  refine z_xP zt144 0 2 [some (.ref 4), some (.int p1), some (.int p2), some (.int p3), none, none] [.int 1, .int p3] rfl rfl ?_
  refine z_xJ zt144 1 rfl rfl (fun (h1 : p3.toInt < 1) => ?_) (fun (h1 : 1 ≤ p3.toInt) => ?_)
  · skip
    refine z_xP zt144 4 12 [some (.ref 4), some (.int p1), some (.int p2), some (.int p3), none, none] [.int (-1)] rfl rfl ?_
    have qm1 : (((-1) : Int32)).toInt = (-1) := rfl
    exact z_xri zt144 5 rfl zzr144 (kk (-1) M0 X (Or.inl ⟨rfl, by unfold z_vK; omega⟩))
  refine z_xP zt144 2 8 [some (.ref 4), some (.int p1), some (.int p2), some (.int p3), none, none] [.int 31, .int p3] rfl rfl ?_
  refine z_xJ zt144 3 rfl rfl (fun (h2 : p3.toInt ≤ 31) => ?_) (fun (h2 : 31 < p3.toInt) => ?_)
  · skip
    refine z_xP zt144 6 16 [some (.ref 4), some (.int p1), some (.int p2), some (.int p3), none, none] [.int p2, .int p1, .ref 4] rfl rfl ?_
    have f4 : T[4]? = some (.inl (0, 0, 0, 0, 0)) := X.1.k rfl (by decide)
    refine z_xcV (vs := [.ref 4, .int p1, .int p2]) (r := []) (L2 := [some (.ref 4), some (.int p1), some (.int p2), none]) zt144 7 rfl zo144 zzcV0_274 (Or.inl rfl) rfl X f4 rfl rfl rfl (Nat.le_of_ble_eq_true rfl) zzm130 (Nat.le_of_ble_eq_true rfl) rfl ?_
    refine z_xP zt130 0 2 [some (.ref 4), some (.int p1), some (.int p2), none] [.int p1, .ref 4] rfl rfl ?_
    refine z_xcV (vs := [.ref 4, .int p1]) (r := []) (L2 := [some (.ref 4), some (.int p1)]) zt130 1 rfl zo130 zzcV0_108 (Or.inl rfl) rfl X f4 rfl rfl rfl (Nat.le_of_ble_eq_true rfl) zzm37 (Nat.le_of_ble_eq_true rfl) rfl ?_
    refine z_xP zt37 0 1 [some (.ref 4), some (.int p1)] [.int p1] rfl rfl ?_
    refine z_xZ zt37 1 rfl rfl (fun (h3 : p1.toInt < 0) => ?_) (fun (h3 : 0 ≤ p1.toInt) => ?_)
    · skip
      refine z_xP zt37 5 25 [some (.ref 4), some (.int p1)] [.null] rfl rfl ?_
      refine z_xrn zt37 11 rfl zzr37 ?_
      show z_ev (d + 5) 130 5 [some (.ref 4), some (.int p1), some (.int p2), none] [.null] M0 _
      refine z_xP zt130 2 20 [some (.ref 4), some (.int p1), some (.int p2), some (.null)] [] rfl rfl ?_
      refine z_xP zt130 7 21 [some (.ref 4), some (.int p1), some (.int p2), some (.null)] [.int (-1)] rfl rfl ?_
      refine z_xri zt130 8 rfl zzr130 ?_
      show z_ev (d + 6) 144 19 [some (.ref 4), some (.int p1), some (.int p2), some (.int p3), none, none] [.int (-1)] M0 _
      refine z_xP zt144 8 23 [some (.ref 4), some (.int p1), some (.int p2), some (.int p3), some (.int (-1)), none] [.int (-1)] rfl rfl ?_
      refine z_xZ zt144 9 rfl rfl (fun (h4 : ((-1) : Int) = 0) => absurd h4 (by omega)) (fun (h4 : ((-1) : Int) ≠ 0) => ?_)
      refine z_xP zt144 10 28 [some (.ref 4), some (.int p1), some (.int p2), some (.int p3), some (.int (-1)), none] [.int (-1)] rfl rfl ?_
      have qm1 : (((-1) : Int32)).toInt = (-1) := rfl
      exact z_xri zt144 11 rfl zzr144 (kk (-1) M0 X (Or.inl ⟨rfl, by unfold z_vK; omega⟩))
    refine z_xP zt37 2 6 [some (.ref 4), some (.int p1)] [.ref 4, .int p1] rfl rfl ?_
    refine z_xgI zt37 3 rfl zo37 zzf0_59 X f4 (by decide) (by decide) rfl (fun (x6 : Int32) h5 (h7 : 0 ≤ x6.toInt) (h8 : x6.toInt ≤ 8) => ?_)
    have ex6 : (z_Fv M0 4 3).toInt = x6.toInt := by rw [z_Fv.of h5]
    have h9 := z_b32 p1
    refine z_xJ zt37 4 rfl rfl (fun (h10 : p1.toInt < x6.toInt) => ?_) (fun (h10 : x6.toInt ≤ p1.toInt) => ?_)
    · skip
      refine z_xP zt37 6 17 [some (.ref 4), some (.int p1)] [.ref 4] rfl rfl ?_
      refine z_xgX (b := 10) zt37 7 rfl zo37 zzf0_18 X f4 (by decide) (by decide) rfl ?_
      refine z_xP zt37 8 21 [some (.ref 4), some (.int p1)] [.int p1, .ref 10] rfl rfl ?_
      have f10 : T[10]? = some (.inr (10, 2, 8, 9, 0)) := X.1.k rfl (by decide)
      refine z_xal zt37 9 rfl X f10 (by decide) (by decide) (by decide) (by omega) (by omega) (fun (a11 : Nat) h12 h13 => ?_) (fun h14 => absurd h14 (z_Gs (hG.go X (by decide)).2.1 h5 (by omega) (by omega)))
      obtain ⟨q15, t16, m17, k18⟩ : ∃ q t m, T[a11]? = some (.inl (3, q, t, m, 9)) := h13
      have g19 := X.1.p3 k18
      have hv : z_vK M0 p1 := by unfold z_vK; omega
      obtain ⟨hAB, _, _, _, hm, _⟩ := id (hD hv)
      obtain ⟨eq0, em0⟩ : q15 = q ∧ m17 = m := by
        have e := hAB.2.1
        rw [← show a11 = b from Option.some.inj (h12.symm.trans hAB.1), k18] at e
        cases e
        exact ⟨rfl, rfl⟩
      refine z_xgR (κ := .inl (2, q15, t16, m17, 0)) zt37 10 rfl zo37 zzf0_89 X k18 (by decide) (by decide) rfl (fun (a21 : Nat) h20 k22 => ?_)
      have g23 := X.1.p2 k22
      refine z_xra zt37 11 rfl zzr37 ?_
      show z_ev (d + 5) 130 5 [some (.ref 4), some (.int p1), some (.int p2), none] [.ref a21] M0 _
      refine z_xP zt130 2 10 [some (.ref 4), some (.int p1), some (.int p2), some (.ref a21)] [] rfl rfl ?_
      refine z_xP zt130 3 12 [some (.ref 4), some (.int p1), some (.int p2), some (.ref a21)] [.int 1, .int p2] rfl rfl ?_
      refine z_xJ zt130 4 rfl rfl (fun (h24 : p2.toInt < 1) => ?_) (fun (h24 : 1 ≤ p2.toInt) => ?_)
      · skip
        refine z_xP zt130 7 21 [some (.ref 4), some (.int p1), some (.int p2), some (.ref a21)] [.int (-1)] rfl rfl ?_
        refine z_xri zt130 8 rfl zzr130 ?_
        show z_ev (d + 6) 144 19 [some (.ref 4), some (.int p1), some (.int p2), some (.int p3), none, none] [.int (-1)] M0 _
        refine z_xP zt144 8 23 [some (.ref 4), some (.int p1), some (.int p2), some (.int p3), some (.int (-1)), none] [.int (-1)] rfl rfl ?_
        refine z_xZ zt144 9 rfl rfl (fun (h25 : ((-1) : Int) = 0) => absurd h25 (by omega)) (fun (h25 : ((-1) : Int) ≠ 0) => ?_)
        refine z_xP zt144 10 28 [some (.ref 4), some (.int p1), some (.int p2), some (.int p3), some (.int (-1)), none] [.int (-1)] rfl rfl ?_
        have qm1 : (((-1) : Int32)).toInt = (-1) := rfl
        exact z_xri zt144 11 rfl zzr144 (kk (-1) M0 X (Or.inl ⟨rfl, by unfold z_vK; omega⟩))
      refine z_xP zt130 5 17 [some (.ref 4), some (.int p1), some (.int p2), some (.ref a21)] [.int 3, .int p2] rfl rfl ?_
      refine z_xJ zt130 6 rfl rfl (fun (h26 : p2.toInt ≤ 3) => ?_) (fun (h26 : 3 < p2.toInt) => ?_)
      · skip
        refine z_xP zt130 9 23 [some (.ref 4), some (.int p1), some (.int p2), some (.ref a21)] [.ref a21] rfl rfl ?_
        refine z_xgR (κ := .inr (102, 0, m17, 0, 1023)) zt130 10 rfl zo130 zzf0_74 X k22 (by decide) (by decide) rfl (fun (a28 : Nat) h27 k29 => ?_)
        refine z_xln zt130 11 rfl X k29 (by decide) (by omega) (fun (x30 : Int32) (h31 : x30.toInt = ((m17 : Nat) : Int)) => ?_)
        refine z_xP zt130 12 29 [some (.ref 4), some (.int p1), some (.int p2), some (.ref a21)] [.int 6, .int x30] rfl rfl ?_
        refine z_xJ zt130 13 rfl rfl (fun (h32 : x30.toInt ≤ 6) => ?_) (fun (h32 : 6 < x30.toInt) => ?_)
        · skip
          refine z_xP zt130 15 38 [some (.ref 4), some (.int p1), some (.int p2), some (.ref a21)] [.int 0] rfl rfl ?_
          refine z_xri zt130 16 rfl zzr130 ?_
          show z_ev (d + 6) 144 19 [some (.ref 4), some (.int p1), some (.int p2), some (.int p3), none, none] [.int 0] M0 _
          refine z_xP zt144 8 23 [some (.ref 4), some (.int p1), some (.int p2), some (.int p3), some (.int 0), none] [.int 0] rfl rfl ?_
          refine z_xZ zt144 9 rfl rfl (fun (h33 : (0 : Int) = 0) => ?_) (fun (h33 : (0 : Int) ≠ 0) => absurd h33 (by omega))
          refine z_xP zt144 12 32 [some (.ref 4), some (.int p1), some (.int p2), some (.int p3), some (.int 0), some (.int 0)] [] rfl rfl ?_
          have q0 : ((0 : Int32)).toInt = 0 := rfl
          have f11 : T[11]? = some (.inr (11, 2, 8, 5, 0)) := X.1.k rfl (by decide)
          have q0 : ((0 : Int32)).toInt = 0 := rfl
          exact zUB144 hW hG hch (hD hv) ⟨by omega, by omega⟩ ⟨by omega, by omega⟩ ⟨by omega, by omega⟩ (by omega) hV V20 hwy (fun x M1 X h => kk x M1 X (Or.inr ⟨⟨hv, by omega⟩, Or.inr ⟨by omega, h⟩⟩)) 42 M0 (0) X ⟨by omega, by omega⟩ (fun i hi => absurd hi (Nat.not_lt_zero i)) (by omega)
        refine z_xP zt130 14 38 [some (.ref 4), some (.int p1), some (.int p2), some (.ref a21)] [.int (-4)] rfl rfl ?_
        refine z_xri zt130 16 rfl zzr130 ?_
        show z_ev (d + 6) 144 19 [some (.ref 4), some (.int p1), some (.int p2), some (.int p3), none, none] [.int (-4)] M0 _
        refine z_xP zt144 8 23 [some (.ref 4), some (.int p1), some (.int p2), some (.int p3), some (.int (-4)), none] [.int (-4)] rfl rfl ?_
        refine z_xZ zt144 9 rfl rfl (fun (h34 : ((-4) : Int) = 0) => absurd h34 (by omega)) (fun (h34 : ((-4) : Int) ≠ 0) => ?_)
        refine z_xP zt144 10 28 [some (.ref 4), some (.int p1), some (.int p2), some (.int p3), some (.int (-4)), none] [.int (-4)] rfl rfl ?_
        have qm4 : (((-4) : Int32)).toInt = (-4) := rfl
        exact z_xri zt144 11 rfl zzr144 (kk (-4) M0 X (Or.inr ⟨⟨hv, by omega⟩, Or.inl ⟨rfl, by omega⟩⟩))
      refine z_xP zt130 7 21 [some (.ref 4), some (.int p1), some (.int p2), some (.ref a21)] [.int (-1)] rfl rfl ?_
      refine z_xri zt130 8 rfl zzr130 ?_
      show z_ev (d + 6) 144 19 [some (.ref 4), some (.int p1), some (.int p2), some (.int p3), none, none] [.int (-1)] M0 _
      refine z_xP zt144 8 23 [some (.ref 4), some (.int p1), some (.int p2), some (.int p3), some (.int (-1)), none] [.int (-1)] rfl rfl ?_
      refine z_xZ zt144 9 rfl rfl (fun (h35 : ((-1) : Int) = 0) => absurd h35 (by omega)) (fun (h35 : ((-1) : Int) ≠ 0) => ?_)
      refine z_xP zt144 10 28 [some (.ref 4), some (.int p1), some (.int p2), some (.int p3), some (.int (-1)), none] [.int (-1)] rfl rfl ?_
      have qm1 : (((-1) : Int32)).toInt = (-1) := rfl
      exact z_xri zt144 11 rfl zzr144 (kk (-1) M0 X (Or.inl ⟨rfl, by unfold z_vK; omega⟩))
    refine z_xP zt37 5 25 [some (.ref 4), some (.int p1)] [.null] rfl rfl ?_
    refine z_xrn zt37 11 rfl zzr37 ?_
    show z_ev (d + 5) 130 5 [some (.ref 4), some (.int p1), some (.int p2), none] [.null] M0 _
    refine z_xP zt130 2 20 [some (.ref 4), some (.int p1), some (.int p2), some (.null)] [] rfl rfl ?_
    refine z_xP zt130 7 21 [some (.ref 4), some (.int p1), some (.int p2), some (.null)] [.int (-1)] rfl rfl ?_
    refine z_xri zt130 8 rfl zzr130 ?_
    show z_ev (d + 6) 144 19 [some (.ref 4), some (.int p1), some (.int p2), some (.int p3), none, none] [.int (-1)] M0 _
    refine z_xP zt144 8 23 [some (.ref 4), some (.int p1), some (.int p2), some (.int p3), some (.int (-1)), none] [.int (-1)] rfl rfl ?_
    refine z_xZ zt144 9 rfl rfl (fun (h36 : ((-1) : Int) = 0) => absurd h36 (by omega)) (fun (h36 : ((-1) : Int) ≠ 0) => ?_)
    refine z_xP zt144 10 28 [some (.ref 4), some (.int p1), some (.int p2), some (.int p3), some (.int (-1)), none] [.int (-1)] rfl rfl ?_
    have qm1 : (((-1) : Int32)).toInt = (-1) := rfl
    exact z_xri zt144 11 rfl zzr144 (kk (-1) M0 X (Or.inl ⟨rfl, by unfold z_vK; omega⟩))
  refine z_xP zt144 4 12 [some (.ref 4), some (.int p1), some (.int p2), some (.int p3), none, none] [.int (-1)] rfl rfl ?_
  have qm1 : (((-1) : Int32)).toInt = (-1) := rfl
  exact z_xri zt144 5 rfl zzr144 (kk (-1) M0 X (Or.inl ⟨rfl, by unfold z_vK; omega⟩))
