/-! twisted: a judge with another set, the class -/
section ZTWP
variable {F : Nat → Nat} {j v w n m i : Nat}
theorem z_fx1E : z_fx1 (z_fx1 F j v) j w = z_fx1 F j w := by
  funext i
  show (if i = j then w else if i = j then v else F i) = if i = j then w else F i
  split <;> rfl
theorem z_fx1S : z_fx1 F j (F j) = F := by
  funext i
  show (if i = j then F j else F i) = F i
  by_cases c : i = j
  · rw [if_pos c, c]
  · rw [if_neg c]
theorem z_fx1B (h : ∀ i, i < n → F i < m) (hv : v < m) : ∀ i, i < n → z_fx1 F j v i < m := fun i hi => by
  show (if i = j then v else F i) < m
  split
  · exact hv
  · exact h i hi
theorem z_woF : z_wo (z_fx1 F j v) j i = z_wo F j i := by
  show (if (if i < j then i else i + 1) = j then v else F (if i < j then i else i + 1)) = F (if i < j then i else i + 1)
  rw [if_neg]
  split <;> omega
theorem z_woB (h : ∀ i, i < n → F i < m) : ∀ i, i + 1 < n → z_wo F j i < m := fun i hi => by
  show F (if i < j then i else i + 1) < m
  split
  · exact h _ (by omega)
  · exact h _ (by omega)
end ZTWP
/-- with set w in place of its own the outcome is liker than l to its answers -/
def z_twBe (c : Nat) (B : Nat → Nat) (q pr en sh ch n : Nat) (S : Nat → Int32) (A : Int32) (F : Nat → Nat) (j l w : Nat) : Prop := ∃ y u, z_oJ c B q pr en sh n ch z_w1 (z_yS S (z_fx1 F j w)) (z_nS S A (z_fx1 F j w)) y u ∧ l < z_lke (S (F j)).toInt.toNat y u 10
def z_twIn (T : List zK) (M : zH) (a1 a4 N q t m pr en sa n : Nat) (B F : Nat → Nat) (S : Nat → Int32) (A : Int32) (c sh ch j : Nat) : Prop := (∃ (v : Nat) (G : Nat → Nat), v < m ∧ z_TSG T M a1 N q t m pr en sa n B (z_fx1 F j v) G S A) ∧ z_RM M a4 c B q pr en sh ch m n S A
theorem z_twIn.ke {T : List zK} {M M1 : zH} {a1 a4 N q t m pr en sa n : Nat} {B F : Nat → Nat} {S : Nat → Int32} {A : Int32} {c sh ch j : Nat} {rs : List Nat} (h : z_twIn T M a1 a4 N q t m pr en sa n B F S A c sh ch j) (X : z_X T rs M M1) (hr : (z_tsr.all fun x => !rs.elem x) = true) (e : z_Ar M1 a4 = z_Ar M a4) : z_twIn T M1 a1 a4 N q t m pr en sa n B F S A c sh ch j := by
  obtain ⟨⟨v, G, hv, hS⟩, hRM⟩ := h
  exact ⟨⟨v, G, hv, hS.ke X hr⟩, hRM.eq e⟩
theorem z_cA.O {T : List zK} {M : zH} (h : z_cA M) (hW : z_W M T) : z_chO M := by
  obtain ⟨f, e1, e2, _⟩ := hW.ai (hW.k (k := 1) (κ := z_ai 1 102 0 4368) rfl (by decide)) (by decide)
  have e : f = fun j => z_tc.getD j 0 := by
    first
    | exact e2.symm.trans h
    | exact e2.trans h
  rw [e] at e1
  exact e1
/-- another set is tried -/
theorem zV126 {T : List zK} {d : Nat} {K : Option Value → zH → Prop} {a0 ci a1 a4 N q1 t1 m1 pr en sa n : Nat} {B F : Nat → Nat} {S : Nat → Int32} {A sh ch p2 p3 : Int32} {M0 : zH} (w0 : 4 ≤ ci ∧ ci ≤ 11) (k0 : T[a0]? = some (.inl (ci, 0, 0, 0, 0))) (k1 : T[a1]? = some (.inl (3, q1, t1, m1, 5))) (k4 : T[a4]? = some (.inr (300, 0, 16380, (-2147483648), 2147483647))) (u2 : 0 ≤ p2.toInt ∧ p2.toInt < (n : Int)) (n5 : n ≤ 5) (hF : ∀ j, j < n → F j < m1) (hs : z_sr F n) (m12 : m1 ≤ 12) (hSA : z_SA q1 m1 S A) (hpe : pr < 1024 ∧ en < 1024) (fs : z_F M0 a0 1 = some (.int sh)) (fc : z_F M0 a0 2 = some (.int ch)) (hcA : z_cA M0) (hWM0 : z_W M0 T) {b5 b6 b7 : Int32} {l : Nat} (e5 : b5.toInt = ((F p2.toInt.toNat : Nat) : Int)) (e6 : z_w2 (fun k => (S (F p2.toInt.toNat)).toInt.toNat / 2 ^ k % 2 = 1) (fun k => ¬ (S (F p2.toInt.toNat)).toInt.toNat / 2 ^ k % 2 = 1) q1 b6.toInt) (e7 : b7.toInt = (l : Int)) {M : zH} {b8 b9 b10 b11 : Int32} {o12 : Option Value} (X : z_X T zw126 M0 M) (hI : z_twIn T M a1 a4 N q1 t1 m1 pr en sa n B F S A ci sh.toInt.toNat ch.toInt.toNat p2.toInt.toNat) (h8 : 0 ≤ b8.toInt ∧ b8.toInt + 1 ≤ (n : Int)) (e9 : b9.toInt = ((z_Ro (z_wo F p2.toInt.toNat) b8.toInt.toNat (n - 1) : Nat) : Int)) (hlt : ∀ i, i < b8.toInt.toNat → z_wo F p2.toInt.toNat i < b11.toInt.toNat) (hge : b8.toInt.toNat = n - 1 ∨ b11.toInt.toNat ≤ z_wo F p2.toInt.toNat b8.toInt.toNat) (hx : 0 ≤ b11.toInt ∧ b11.toInt < (m1 : Int)) (kk : ∀ (M1 : zH) (f x : Int32) (o : Option Value), z_X T zw126 M0 M1 → z_twIn T M1 a1 a4 N q1 t1 m1 pr en sa n B F S A ci sh.toInt.toNat ch.toInt.toNat p2.toInt.toNat → x.toInt = b11.toInt + 1 → ((f.toInt = 0 ∧ ¬ z_twBe ci B q1 pr en sh.toInt.toNat ch.toInt.toNat n S A F p2.toInt.toNat l b11.toInt.toNat) ∨ (f.toInt = 1 ∧ z_twBe ci B q1 pr en sh.toInt.toNat ch.toInt.toNat n S A F p2.toInt.toNat l b11.toInt.toNat)) → z_ev (d + 5) 126 66 [some (.ref a0), some (.ref a1), some (.int p2), some (.int p3), some (.ref a4), some (.int b5), some (.int b6), some (.int b7), some (.int b8), some (.int b9), some (.int f), some (.int x), o] [] M1 K) : z_ev (d + 5) 126 135 [some (.ref a0), some (.ref a1), some (.int p2), some (.int p3), some (.ref a4), some (.int b5), some (.int b6), some (.int b7), some (.int b8), some (.int b9), some (.int b10), some (.int b11), o12] [] M K := by
  obtain ⟨⟨v, G, hv, hS⟩, hRM⟩ := hI
  obtain ⟨⟨hWM, hbk⟩, kb, ⟨hN0, hag⟩, ⟨hsa, ksa, hSS⟩, hA, ⟨_, jv4, hj4, ejv4⟩, hnu, har, hln, hlz⟩ := id hS
  have g1 := X.1.p3 k1
  have q1b : 1 ≤ q1 ∧ q1 ≤ 10 := hSA.1
  have hw : ∀ k, k < 4 → ¬ (1000 + 100 * ci + k) ∈ zw126 := fun k hk hm => by
    have h : ∀ x ∈ zw126, x < 1400 := by decide
    have := h _ hm
    omega
  have hj : p2.toInt.toNat < n := by omega
  have hRU := z_RoU (o := z_wo F p2.toInt.toNat) (b := b8.toInt.toNat) (n - 1) (by omega) (fun i hi => by have := z_woB (j := p2.toInt.toNat) hF i (by omega); omega)
  refine z_xP zt126 51 136 [some (.ref a0), some (.ref a1), some (.int p2), some (.int p3), some (.ref a4), some (.int b5), some (.int b6), some (.int b7), some (.int b8), some (.int b9), some (.int b10), some (.int b11), o12] [.ref a1] rfl rfl ?_
  refine z_xgR (κ := .inr (210, 0, 5, 0, ((m1 : Nat) : Int) - 1)) zt126 52 rfl zo126 zzf4_115 X k1 (by decide) (by decide) rfl (fun (a9 : Nat) h9 k9 => ?_)
  obtain rfl : a9 = a1 + 8 := z_rfe h9 (hbk _ _ _ _ _ kb).2.2.2.2.2.2.2.1
  refine z_xP zt126 53 142 [some (.ref a0), some (.ref a1), some (.int p2), some (.int p3), some (.ref a4), some (.int b5), some (.int b6), some (.int b7), some (.int b8), some (.int b9), some (.int b10), some (.int b11), o12] [.int b11, .int p2, .ref (a1 + 8)] rfl rfl ?_
  refine z_xis zt126 54 rfl X k9 (by decide) (X.1.g4 k9 (by decide)) (by omega) (by omega) (by omega) (by omega) (by decide) (fun M11 X12 e13 h14 => ?_)
  have hS11 : z_TSG T M11 a1 N q1 t1 m1 pr en sa n B (z_fx1 F p2.toInt.toNat b11.toInt.toNat) G S A := hS.nu X12.1 e13 (fun i hi => by
    rw [h14]
    show (if i = p2.toInt.toNat then b11 else z_Ar M (a1 + 8) i).toInt = ((if i = p2.toInt.toNat then b11.toInt.toNat else F i : Nat) : Int)
    by_cases c : i = p2.toInt.toNat
    · rw [if_pos c, if_pos c]
      omega
    · rw [if_neg c, if_neg c, hnu i hi]
      show ((if i = p2.toInt.toNat then v else F i : Nat) : Int) = (F i : Int)
      rw [if_neg c])
  have eR11 : z_Ar M11 a4 = z_Ar M a4 := e13.a k4 (by decide)
  refine z_xP zt126 55 151 [some (.ref a0), some (.ref a1), some (.int p2), some (.int p3), some (.ref a4), some (.int b5), some (.int b6), some (.int b7), some (.int b8), some (.int b9), some (.int b10), some (.int b11), o12] [.int b8, .int b11, .int b9, .ref a1, .ref a0] rfl rfl ?_
  refine z_xI zt126 56 rfl rfl (fun (x15 : Int32) (h16 : x15.toInt = b11.toInt + b8.toInt) => ?_) (z_pAdd rfl rfl (by omega) (by omega))
  refine z_xP zt126 57 155 [some (.ref a0), some (.ref a1), some (.int p2), some (.int p3), some (.ref a4), some (.int b5), some (.int b6), some (.int b7), some (.int b8), some (.int b9), some (.int b10), some (.int b11), o12] [.int 1, .int b8, .int x15, .int b9, .ref a1, .ref a0] rfl rfl ?_
  refine z_xI zt126 58 rfl rfl (fun (x17 : Int32) (h18 : x17.toInt = b8.toInt + 1) => ?_) (z_pAdd rfl rfl (by omega) (by omega))
  refine z_xcS (vs := [.int x15, .int x17]) (r := [.int b9, .ref a1, .ref a0]) (L2 := [some (.int x15), some (.int x17)]) zt126 59 rfl zo126 zzcS4_125 (Or.inr rfl) (Nat.le_of_ble_eq_true rfl) rfl rfl (Nat.le_of_ble_eq_true rfl) zzm105 (Nat.le_of_ble_eq_true rfl) rfl ?_
  refine zUC105 (a := b11.toInt.toNat + b8.toInt.toNat) (b := b8.toInt.toNat + 1) X12.1 (hcA.ke hWM0 X12.2 (by decide)) (by omega) (by omega) (by omega) (by omega) (fun x21 M19 X20 h22 => ?_)
  have hC5 := z_Cb5 (b11.toInt.toNat + b8.toInt.toNat) (by omega) (b8.toInt.toNat + 1) (by omega)
  have X24 := X12.go X20 (z_sb (by decide))
  show z_ev (d + 5) 126 159 [some (.ref a0), some (.ref a1), some (.int p2), some (.int p3), some (.ref a4), some (.int b5), some (.int b6), some (.int b7), some (.int b8), some (.int b9), some (.int b10), some (.int b11), o12] [.int x21, .int b9, .ref a1, .ref a0] M19 _
  have h26 := z_b32 b9
  refine z_xI zt126 60 rfl rfl (fun (x27 : Int32) (h27 : x27.toInt = b9.toInt + x21.toInt) => ?_) (z_pAdd rfl rfl (by omega) (by omega))
  refine z_xP zt126 61 162 [some (.ref a0), some (.ref a1), some (.int p2), some (.int p3), some (.ref a4), some (.int b5), some (.int b6), some (.int b7), some (.int b8), some (.int b9), some (.int b10), some (.int b11), o12] [.ref a4, .int x27, .ref a1, .ref a0] rfl rfl ?_
  refine z_xcV (vs := [.ref a0, .ref a1, .int x27, .ref a4]) (r := []) (L2 := [some (.ref a0), some (.ref a1), some (.int x27), some (.ref a4), none]) zt126 62 rfl zo126 zzcV4_104 (Or.inr rfl) rfl X24 k0 (z_w8 (fun c => (([(4, 122), (5, 122), (6, 122), (7, 122), (8, 122), (9, 122), (10, 122), (11, 122)] : List (Nat × Nat)).find? fun t => t.1 == c) = some (c, 122)) rfl rfl rfl rfl rfl rfl rfl rfl w0) rfl rfl (Nat.le_of_ble_eq_true rfl) zzm122 (Nat.le_of_ble_eq_true rfl) rfl ?_
  have eRk : z_Rk (z_insr (z_wo F p2.toInt.toNat) b8.toInt.toNat b11.toInt.toNat) n = z_Ro (z_wo F p2.toInt.toNat) b8.toInt.toNat (n - 1) + z_Cb (b11.toInt.toNat + b8.toInt.toNat) (b8.toInt.toNat + 1) := by
    have e := z_RkIns (o := z_wo F p2.toInt.toNat) (b := b8.toInt.toNat) (x := b11.toInt.toNat) (n - 1) (by omega)
    rw [show n - 1 + 1 = n by omega] at e
    exact e
  have hsI : z_sr (z_insr (z_wo F p2.toInt.toNat) b8.toInt.toNat b11.toInt.toNat) n := by
    have e := z_insS (o := z_wo F p2.toInt.toNat) (b := b8.toInt.toNat) (x := b11.toInt.toNat) (n := n - 1) (z_woS hs hj) (by omega) hlt hge
    rw [show n - 1 + 1 = n by omega] at e
    exact e
  have hFx : ∀ i, i < n → z_fx1 F p2.toInt.toNat b11.toInt.toNat i < m1 := z_fx1B hF (by omega)
  refine zUC122 w0 k0 k4 (hS11.ke X20 (by decide)) hFx hsI (z_eqmI hj (by omega)) (by omega) (by omega) m12 hSA hpe (X24.2.f k0 (hw 1 (by decide)) fs) (X24.2.f k0 (hw 2 (by decide)) fc) (hRM.eq ((X20.2.a k4 (by decide)).trans eR11)) (fun x31 M29 G2 X30 hS29 hRM29 hoW => ?_)
  have X32 := X24.go X30 (z_sb (by decide))
  show z_ev (d + 5) 126 165 [some (.ref a0), some (.ref a1), some (.int p2), some (.int p3), some (.ref a4), some (.int b5), some (.int b6), some (.int b7), some (.int b8), some (.int b9), some (.int b10), some (.int b11), o12] [.int x31] M29 _
  refine z_xP zt126 63 171 [some (.ref a0), some (.ref a1), some (.int p2), some (.int p3), some (.ref a4), some (.int b5), some (.int b6), some (.int b7), some (.int b8), some (.int b9), some (.int b10), some (.int b11), (some (.int x31))] [.int b6, .int x31] rfl rfl ?_
  refine z_xI zt126 64 rfl rfl (fun (x34 : Int32) (h34 : x34 = x31 &&& b6) => ?_) rfl
  obtain ⟨_, _, _, _, _, hwo⟩ := id hoW.2
  have hdl := z_outL hwo q1b.1
  have hy0 := hSA.2.2 (F p2.toInt.toNat) (hF _ hj)
  have hlk := z_lkC hoW.1 hdl.2 (show (S (F p2.toInt.toNat)).toInt.toNat < 2 ^ q1 by generalize 2 ^ q1 = Pq at *; omega) e6 h34
  refine z_xcS (vs := [.int x34]) (r := []) (L2 := [some (.int x34)]) zt126 65 rfl zo126 zzcS4_77 (Or.inl rfl) (Nat.le_of_ble_eq_true rfl) rfl rfl (Nat.le_of_ble_eq_true rfl) zzm31 (Nat.le_of_ble_eq_true rfl) rfl ?_
  refine zUC31 X32.1 hlk.1 (fun x38 M36 X37 h39 h40 h38 => ?_)
  rw [hlk.2] at h38
  have X41 := X32.go X37 (z_sb (by decide))
  have hI36 : z_twIn T M36 a1 a4 N q1 t1 m1 pr en sa n B F S A ci sh.toInt.toNat ch.toInt.toNat p2.toInt.toNat := ⟨⟨b11.toInt.toNat, G2, by omega, hS29.ke X37 (by decide)⟩, hRM29.eq (X37.2.a k4 (by decide))⟩
  show z_ev (d + 5) 126 175 [some (.ref a0), some (.ref a1), some (.int p2), some (.int p3), some (.ref a4), some (.int b5), some (.int b6), some (.int b7), some (.int b8), some (.int b9), some (.int b10), some (.int b11), (some (.int x31))] [.int x38] M36 _
  refine z_xP zt126 66 177 [some (.ref a0), some (.ref a1), some (.int p2), some (.int p3), some (.ref a4), some (.int b5), some (.int b6), some (.int b7), some (.int b8), some (.int b9), some (.int b10), some (.int b11), (some (.int x31))] [.int b7, .int x38] rfl rfl ?_
  refine z_xJ zt126 67 rfl rfl (fun (h43 : x38.toInt ≤ b7.toInt) => ?_) (fun (h43 : b7.toInt < x38.toInt) => ?_)
  · skip
    refine z_xP zt126 69 185 [some (.ref a0), some (.ref a1), some (.int p2), some (.int p3), some (.ref a4), some (.int b5), some (.int b6), some (.int b7), some (.int b8), some (.int b9), some (.int b10), some (.int b11), (some (.int x31))] [.int 0] rfl rfl ?_
    refine z_xP zt126 70 187 [some (.ref a0), some (.ref a1), some (.int p2), some (.int p3), some (.ref a4), some (.int b5), some (.int b6), some (.int b7), some (.int b8), some (.int b9), some (.int 0), some (.int b11), (some (.int x31))] [] rfl rfl ?_
    refine z_xN zt126 71 rfl rfl (fun (x92 : Int32) (h93 : x92.toInt = b11.toInt + 1) => ?_) (z_pAdd rfl rfl (by omega) (by omega))
    show z_ev (d + 5) 126 190 [some (.ref a0), some (.ref a1), some (.int p2), some (.int p3), some (.ref a4), some (.int b5), some (.int b6), some (.int b7), some (.int b8), some (.int b9), some (.int 0), some (.int x92), (some (.int x31))] [] M36 _
    refine z_xP zt126 72 66 [some (.ref a0), some (.ref a1), some (.int p2), some (.int p3), some (.ref a4), some (.int b5), some (.int b6), some (.int b7), some (.int b8), some (.int b9), some (.int 0), some (.int x92), (some (.int x31))] [] rfl rfl ?_
    exact kk M36 0 x92 _ X41 hI36 h93 (Or.inl ⟨rfl, fun ⟨y, u, g1, g2⟩ => by
      obtain ⟨rfl, rfl⟩ := z_oJU g1 hoW.2 q1b.1
      omega⟩)
  refine z_xP zt126 68 185 [some (.ref a0), some (.ref a1), some (.int p2), some (.int p3), some (.ref a4), some (.int b5), some (.int b6), some (.int b7), some (.int b8), some (.int b9), some (.int b10), some (.int b11), (some (.int x31))] [.int 1] rfl rfl ?_
  refine z_xP zt126 70 187 [some (.ref a0), some (.ref a1), some (.int p2), some (.int p3), some (.ref a4), some (.int b5), some (.int b6), some (.int b7), some (.int b8), some (.int b9), some (.int 1), some (.int b11), (some (.int x31))] [] rfl rfl ?_
  refine z_xN zt126 71 rfl rfl (fun (x92 : Int32) (h93 : x92.toInt = b11.toInt + 1) => ?_) (z_pAdd rfl rfl (by omega) (by omega))
  show z_ev (d + 5) 126 190 [some (.ref a0), some (.ref a1), some (.int p2), some (.int p3), some (.ref a4), some (.int b5), some (.int b6), some (.int b7), some (.int b8), some (.int b9), some (.int 1), some (.int x92), (some (.int x31))] [] M36 _
  refine z_xP zt126 72 66 [some (.ref a0), some (.ref a1), some (.int p2), some (.int p3), some (.ref a4), some (.int b5), some (.int b6), some (.int b7), some (.int b8), some (.int b9), some (.int 1), some (.int x92), (some (.int x31))] [] rfl rfl ?_
  exact kk M36 1 x92 _ X41 hI36 h93 (Or.inr ⟨rfl, _, _, hoW.2, by omega⟩)
/-- its own set again -/
theorem zE126 {T : List zK} {d : Nat} {K : Option Value → zH → Prop} {a0 ci a1 a4 N q1 t1 m1 pr en sa n : Nat} {B F : Nat → Nat} {S : Nat → Int32} {A sh ch p2 p3 : Int32} {M0 : zH} (w0 : 4 ≤ ci ∧ ci ≤ 11) (k0 : T[a0]? = some (.inl (ci, 0, 0, 0, 0))) (k1 : T[a1]? = some (.inl (3, q1, t1, m1, 5))) (k4 : T[a4]? = some (.inr (300, 0, 16380, (-2147483648), 2147483647))) (u2 : 0 ≤ p2.toInt ∧ p2.toInt < (n : Int)) (n5 : n ≤ 5) (hF : ∀ j, j < n → F j < m1) (hs : z_sr F n) (m12 : m1 ≤ 12) (hSA : z_SA q1 m1 S A) (hpe : pr < 1024 ∧ en < 1024) (fs : z_F M0 a0 1 = some (.int sh)) (fc : z_F M0 a0 2 = some (.int ch)) (hcA : z_cA M0) (hWM0 : z_W M0 T) {b5 b6 b7 : Int32} {l : Nat} (e5 : b5.toInt = ((F p2.toInt.toNat : Nat) : Int)) (e6 : z_w2 (fun k => (S (F p2.toInt.toNat)).toInt.toNat / 2 ^ k % 2 = 1) (fun k => ¬ (S (F p2.toInt.toNat)).toInt.toNat / 2 ^ k % 2 = 1) q1 b6.toInt) (e7 : b7.toInt = (l : Int)) {M : zH} {b8 b9 b10 b11 : Int32} {o12 : Option Value} (X : z_X T zw126 M0 M) (hI : z_twIn T M a1 a4 N q1 t1 m1 pr en sa n B F S A ci sh.toInt.toNat ch.toInt.toNat p2.toInt.toNat) (hb : (b10.toInt = 0 ∧ ∀ w, w < m1 → ¬ z_twBe ci B q1 pr en sh.toInt.toNat ch.toInt.toNat n S A F p2.toInt.toNat l w) ∨ (b10.toInt = 1 ∧ ∃ w, w < m1 ∧ z_twBe ci B q1 pr en sh.toInt.toNat ch.toInt.toNat n S A F p2.toInt.toNat l w)) (kk : ∀ (x : Int32) (M1 : zH) (G : Nat → Nat), z_X T zw126 M0 M1 → z_TSG T M1 a1 N q1 t1 m1 pr en sa n B F G S A → z_RM M1 a4 ci B q1 pr en sh.toInt.toNat ch.toInt.toNat m1 n S A → ((x.toInt = 0 ∧ ∀ w, w < m1 → ¬ z_twBe ci B q1 pr en sh.toInt.toNat ch.toInt.toNat n S A F p2.toInt.toNat l w) ∨ (x.toInt = 1 ∧ ∃ w, w < m1 ∧ z_twBe ci B q1 pr en sh.toInt.toNat ch.toInt.toNat n S A F p2.toInt.toNat l w)) → K (some (.int x)) M1) : z_ev (d + 5) 126 193 [some (.ref a0), some (.ref a1), some (.int p2), some (.int p3), some (.ref a4), some (.int b5), some (.int b6), some (.int b7), some (.int b8), some (.int b9), some (.int b10), some (.int b11), o12] [] M K := by
  obtain ⟨⟨v, G, hv, hS⟩, hRM⟩ := hI
  obtain ⟨⟨hWM, hbk⟩, kb, ⟨hN0, hag⟩, ⟨hsa, ksa, hSS⟩, hA, ⟨_, jv4, hj4, ejv4⟩, hnu, har, hln, hlz⟩ := id hS
  have g1 := X.1.p3 k1
  have hj : p2.toInt.toNat < n := by omega
  have hFj := hF _ hj
  refine z_xP zt126 73 194 [some (.ref a0), some (.ref a1), some (.int p2), some (.int p3), some (.ref a4), some (.int b5), some (.int b6), some (.int b7), some (.int b8), some (.int b9), some (.int b10), some (.int b11), o12] [.ref a1] rfl rfl ?_
  refine z_xgR (κ := .inr (210, 0, 5, 0, ((m1 : Nat) : Int) - 1)) zt126 74 rfl zo126 zzf4_115 X k1 (by decide) (by decide) rfl (fun (a12 : Nat) h11 k13 => ?_)
  obtain rfl : a12 = a1 + 8 := z_rfe h11 (hbk _ _ _ _ _ kb).2.2.2.2.2.2.2.1
  refine z_xP zt126 75 200 [some (.ref a0), some (.ref a1), some (.int p2), some (.int p3), some (.ref a4), some (.int b5), some (.int b6), some (.int b7), some (.int b8), some (.int b9), some (.int b10), some (.int b11), o12] [.int b5, .int p2, .ref (a1 + 8)] rfl rfl ?_
  refine z_xis zt126 76 rfl X k13 (by decide) (X.1.g4 k13 (by decide)) (by omega) (by omega) (by omega) (by omega) (by decide) (fun M14 X15 e16 h17 => ?_)
  refine z_xP zt126 77 203 [some (.ref a0), some (.ref a1), some (.int p2), some (.int p3), some (.ref a4), some (.int b5), some (.int b6), some (.int b7), some (.int b8), some (.int b9), some (.int b10), some (.int b11), o12] [.int b10] rfl rfl ?_
  have hS14 : z_TSG T M14 a1 N q1 t1 m1 pr en sa n B F G S A := hS.nu X15.1 e16 (fun i hi => by
    rw [h17]
    show (if i = p2.toInt.toNat then b5 else z_Ar M (a1 + 8) i).toInt = (F i : Int)
    by_cases c : i = p2.toInt.toNat
    · rw [if_pos c, c]
      exact e5
    · rw [if_neg c, hnu i hi]
      show ((if i = p2.toInt.toNat then v else F i : Nat) : Int) = (F i : Int)
      rw [if_neg c])
  exact z_xrz zt126 78 rfl zzr126 (by omega) (by omega) (kk b10 M14 G X15 hS14 (hRM.eq (e16.a k4 (by decide))) hb)
theorem zUB126 {T : List zK} {d : Nat} {K : Option Value → zH → Prop} {a0 ci a1 a4 N q1 t1 m1 pr en sa n : Nat} {B F : Nat → Nat} {S : Nat → Int32} {A sh ch p2 p3 : Int32} {M0 : zH} (w0 : 4 ≤ ci ∧ ci ≤ 11) (k0 : T[a0]? = some (.inl (ci, 0, 0, 0, 0))) (k1 : T[a1]? = some (.inl (3, q1, t1, m1, 5))) (k4 : T[a4]? = some (.inr (300, 0, 16380, (-2147483648), 2147483647))) (u2 : 0 ≤ p2.toInt ∧ p2.toInt < (n : Int)) (n5 : n ≤ 5) (hF : ∀ j, j < n → F j < m1) (hs : z_sr F n) (m12 : m1 ≤ 12) (hSA : z_SA q1 m1 S A) (hpe : pr < 1024 ∧ en < 1024) (fs : z_F M0 a0 1 = some (.int sh)) (fc : z_F M0 a0 2 = some (.int ch)) (hcA : z_cA M0) (hWM0 : z_W M0 T) {b5 b6 b7 : Int32} {l : Nat} (e5 : b5.toInt = ((F p2.toInt.toNat : Nat) : Int)) (e6 : z_w2 (fun k => (S (F p2.toInt.toNat)).toInt.toNat / 2 ^ k % 2 = 1) (fun k => ¬ (S (F p2.toInt.toNat)).toInt.toNat / 2 ^ k % 2 = 1) q1 b6.toInt) (e7 : b7.toInt = (l : Int)) (kk : ∀ (x : Int32) (M1 : zH) (G : Nat → Nat), z_X T zw126 M0 M1 → z_TSG T M1 a1 N q1 t1 m1 pr en sa n B F G S A → z_RM M1 a4 ci B q1 pr en sh.toInt.toNat ch.toInt.toNat m1 n S A → ((x.toInt = 0 ∧ ∀ w, w < m1 → ¬ z_twBe ci B q1 pr en sh.toInt.toNat ch.toInt.toNat n S A F p2.toInt.toNat l w) ∨ (x.toInt = 1 ∧ ∃ w, w < m1 ∧ z_twBe ci B q1 pr en sh.toInt.toNat ch.toInt.toNat n S A F p2.toInt.toNat l w)) → K (some (.int x)) M1) : ∀ nn : Nat, (∀ (M : zH) (b8 : Int32) (b9 : Int32) (b10 : Int32) (b11 : Int32) (o12 : Option Value), z_X T zw126 M0 M → z_twIn T M a1 a4 N q1 t1 m1 pr en sa n B F S A ci sh.toInt.toNat ch.toInt.toNat p2.toInt.toNat → (0 ≤ b8.toInt ∧ b8.toInt + 1 ≤ (n : Int)) → b9.toInt = ((z_Ro (z_wo F p2.toInt.toNat) b8.toInt.toNat (n - 1) : Nat) : Int) → (∀ i, i < b8.toInt.toNat → z_wo F p2.toInt.toNat i < b11.toInt.toNat) → (0 ≤ b11.toInt ∧ b11.toInt ≤ (m1 : Int)) → ((b10.toInt = 0 ∧ ∀ w, w < b11.toInt.toNat → ¬ z_twBe ci B q1 pr en sh.toInt.toNat ch.toInt.toNat n S A F p2.toInt.toNat l w) ∨ (b10.toInt = 1 ∧ ∃ w, w < m1 ∧ z_twBe ci B q1 pr en sh.toInt.toNat ch.toInt.toNat n S A F p2.toInt.toNat l w)) → (1024 - b11.toInt) * 20 + 10 < (nn : Int) → z_ev (d + 5) 126 66 [some (.ref a0), some (.ref a1), some (.int p2), some (.int p3), some (.ref a4), some (.int b5), some (.int b6), some (.int b7), some (.int b8), some (.int b9), some (.int b10), some (.int b11), o12] [] M K) ∧ (∀ (M : zH) (b8 : Int32) (b9 : Int32) (b10 : Int32) (b11 : Int32) (o12 : Option Value), z_X T zw126 M0 M → z_twIn T M a1 a4 N q1 t1 m1 pr en sa n B F S A ci sh.toInt.toNat ch.toInt.toNat p2.toInt.toNat → (0 ≤ b8.toInt ∧ b8.toInt + 1 ≤ (n : Int)) → b9.toInt = ((z_Ro (z_wo F p2.toInt.toNat) b8.toInt.toNat (n - 1) : Nat) : Int) → (∀ i, i < b8.toInt.toNat → z_wo F p2.toInt.toNat i < b11.toInt.toNat) → (0 ≤ b11.toInt ∧ b11.toInt < (m1 : Int)) → (∀ w, w < b11.toInt.toNat → ¬ z_twBe ci B q1 pr en sh.toInt.toNat ch.toInt.toNat n S A F p2.toInt.toNat l w) → (1024 - b11.toInt) * 20 + (4 - b8.toInt) < (nn : Int) → z_ev (d + 5) 126 84 [some (.ref a0), some (.ref a1), some (.int p2), some (.int p3), some (.ref a4), some (.int b5), some (.int b6), some (.int b7), some (.int b8), some (.int b9), some (.int b10), some (.int b11), o12] [] M K) := by
  intro nn
  induction nn with
  | zero => exact ⟨(by intros; exfalso; omega), (by intros; exfalso; omega)⟩
  | succ nn ih =>
    have hj : p2.toInt.toNat < n := by omega
    refine ⟨?_, ?_⟩
    · skip
      intro M b8 b9 b10 b11 o12 X hI h8 e9 hlt hx hb hE
      obtain ⟨⟨v, G, hv, hS⟩, hRM⟩ := id hI
      obtain ⟨⟨hWM, hbk⟩, kb, ⟨hN0, hag⟩, ⟨hsa, ksa, hSS⟩, hA, ⟨_, jv4, hj4, ejv4⟩, hnu, har, hln, hlz⟩ := id hS
      have g1 := X.1.p3 k1
      refine z_xP zt126 24 69 [some (.ref a0), some (.ref a1), some (.int p2), some (.int p3), some (.ref a4), some (.int b5), some (.int b6), some (.int b7), some (.int b8), some (.int b9), some (.int b10), some (.int b11), o12] [.ref a1, .int b11] rfl rfl ?_
      refine z_xgR (κ := .inl (2, q1, t1, m1, 0)) zt126 25 rfl zo126 zzf4_50 X k1 (by decide) (by decide) rfl (fun (a2 : Nat) h1 k3 => ?_)
      have g4 := X.1.p2 k3
      refine z_xgR (κ := .inr (102, 0, m1, 0, 1023)) zt126 26 rfl zo126 zzf4_82 X k3 (by decide) (by decide) rfl (fun (a6 : Nat) h5 k7 => ?_)
      refine z_xln zt126 27 rfl X k7 (by decide) (by omega) (fun (x8 : Int32) (h9 : x8.toInt = ((m1 : Nat) : Int)) => ?_)
      refine z_xJ zt126 28 rfl rfl (fun (h10 : x8.toInt ≤ b11.toInt) => ?_) (fun (h10 : b11.toInt < x8.toInt) => ?_)
      · skip
        refine zE126 w0 k0 k1 k4 u2 n5 hF hs m12 hSA hpe fs fc hcA hWM0 e5 e6 e7 X hI ?_ kk
        rcases hb with ⟨b1, b2⟩ | hb
        · exact Or.inl ⟨b1, fun w hw => b2 w (by omega)⟩
        · exact Or.inr hb
      refine z_xP zt126 29 81 [some (.ref a0), some (.ref a1), some (.int p2), some (.int p3), some (.ref a4), some (.int b5), some (.int b6), some (.int b7), some (.int b8), some (.int b9), some (.int b10), some (.int b11), o12] [.int b10] rfl rfl ?_
      refine z_xZ zt126 30 rfl rfl (fun (h18 : b10.toInt ≠ 0) => ?_) (fun (h18 : b10.toInt = 0) => ?_)
      · skip
        refine zE126 w0 k0 k1 k4 u2 n5 hF hs m12 hSA hpe fs fc hcA hWM0 e5 e6 e7 X hI ?_ kk
        rcases hb with ⟨b1, b2⟩ | hb
        · exact absurd b1 h18
        · exact Or.inr hb
      refine ih.2 M b8 b9 b10 b11 o12 X hI h8 e9 hlt ⟨by omega, by omega⟩ ?_ (by omega)
      rcases hb with ⟨b1, b2⟩ | ⟨b1, b2⟩
      · exact b2
      · omega
    · skip
      intro M b8 b9 b10 b11 o12 X hI h8 e9 hlt hx hb hE
      obtain ⟨⟨v, G, hv, hS⟩, hRM⟩ := id hI
      obtain ⟨⟨hWM, hbk⟩, kb, ⟨hN0, hag⟩, ⟨hsa, ksa, hSS⟩, hA, ⟨_, jv4, hj4, ejv4⟩, hnu, har, hln, hlz⟩ := id hS
      have g1 := X.1.p3 k1
      have hRU := z_RoU (o := z_wo F p2.toInt.toNat) (b := b8.toInt.toNat) (n - 1) (by omega) (fun i hi => by have := z_woB (j := p2.toInt.toNat) hF i (by omega); omega)
      have kT : ∀ (M1 : zH) (f x : Int32) (o : Option Value), z_X T zw126 M0 M1 → z_twIn T M1 a1 a4 N q1 t1 m1 pr en sa n B F S A ci sh.toInt.toNat ch.toInt.toNat p2.toInt.toNat → x.toInt = b11.toInt + 1 → ((f.toInt = 0 ∧ ¬ z_twBe ci B q1 pr en sh.toInt.toNat ch.toInt.toNat n S A F p2.toInt.toNat l b11.toInt.toNat) ∨ (f.toInt = 1 ∧ z_twBe ci B q1 pr en sh.toInt.toNat ch.toInt.toNat n S A F p2.toInt.toNat l b11.toInt.toNat)) → z_ev (d + 5) 126 66 [some (.ref a0), some (.ref a1), some (.int p2), some (.int p3), some (.ref a4), some (.int b5), some (.int b6), some (.int b7), some (.int b8), some (.int b9), some (.int f), some (.int x), o] [] M1 K := fun M1 f x o X1 hI1 ex hf => by
        have es : x.toInt.toNat = b11.toInt.toNat + 1 := by omega
        refine ih.1 M1 b8 b9 f x o X1 hI1 h8 e9 (fun i hi => by have := hlt i hi; omega) ⟨by omega, by omega⟩ ?_ (by omega)
        rcases hf with ⟨f0, hf⟩ | ⟨f1, hf⟩
        · refine Or.inl ⟨f0, fun w hw => ?_⟩
          by_cases c : w = b11.toInt.toNat
          · rw [c]
            exact hf
          · exact hb w (by omega)
        · exact Or.inr ⟨f1, _, by omega, hf⟩
      refine z_xP zt126 31 87 [some (.ref a0), some (.ref a1), some (.int p2), some (.int p3), some (.ref a4), some (.int b5), some (.int b6), some (.int b7), some (.int b8), some (.int b9), some (.int b10), some (.int b11), o12] [.ref a1, .int b8] rfl rfl ?_
      refine z_xgI zt126 32 rfl zo126 zzf4_108 X k1 (by decide) (by decide) rfl (fun (x2 : Int32) h1 (h3 : 0 ≤ x2.toInt) (h4 : x2.toInt ≤ (5 : Int)) => ?_)
      have e2 : x2.toInt = (n : Int) := by
        rw [z_ive h1 hj4]
        exact ejv4
      refine z_xP zt126 33 91 [some (.ref a0), some (.ref a1), some (.int p2), some (.int p3), some (.ref a4), some (.int b5), some (.int b6), some (.int b7), some (.int b8), some (.int b9), some (.int b10), some (.int b11), o12] [.int 1, .int x2, .int b8] rfl rfl ?_
      refine z_xI zt126 34 rfl rfl (fun (x5 : Int32) (h6 : x5.toInt = x2.toInt - 1) => ?_) (z_pSub rfl rfl (by omega) (by omega))
      refine z_xJ zt126 35 rfl rfl (fun (h7 : x5.toInt ≤ b8.toInt) => ?_) (fun (h7 : b8.toInt < x5.toInt) => ?_)
      · skip
        exact zV126 w0 k0 k1 k4 u2 n5 hF hs m12 hSA hpe fs fc hcA hWM0 e5 e6 e7 X hI h8 e9 hlt (Or.inl (by omega)) ⟨by omega, by omega⟩ kT
      refine z_xP zt126 36 99 [some (.ref a0), some (.ref a1), some (.int p2), some (.int p3), some (.ref a4), some (.int b5), some (.int b6), some (.int b7), some (.int b8), some (.int b9), some (.int b10), some (.int b11), o12] [.int b8, .int p2, .ref a1] rfl rfl ?_
      refine z_xcV (vs := [.ref a1, .int p2, .int b8]) (r := []) (L2 := [some (.ref a1), some (.int p2), some (.int b8)]) zt126 37 rfl zo126 zzcV4_121 (Or.inl rfl) rfl X k1 rfl rfl rfl (Nat.le_of_ble_eq_true rfl) zzm128 (Nat.le_of_ble_eq_true rfl) rfl ?_
      refine zUC128 hS ⟨by omega, by omega⟩ ⟨by omega, by omega⟩ (fun x50 M48 X49 h51 => ?_)
      rw [z_woF] at h51
      have X53 := X.go X49 (z_sb (by decide))
      have hI48 := hI.ke X49 (by decide) (X49.2.a k4 (by decide))
      show z_ev (d + 5) 126 102 [some (.ref a0), some (.ref a1), some (.int p2), some (.int p3), some (.ref a4), some (.int b5), some (.int b6), some (.int b7), some (.int b8), some (.int b9), some (.int b10), some (.int b11), o12] [.int x50] M48 _
      refine z_xP zt126 38 104 [some (.ref a0), some (.ref a1), some (.int p2), some (.int p3), some (.ref a4), some (.int b5), some (.int b6), some (.int b7), some (.int b8), some (.int b9), some (.int b10), some (.int b11), o12] [.int b11, .int x50] rfl rfl ?_
      refine z_xJ zt126 39 rfl rfl (fun (h55 : b11.toInt ≤ x50.toInt) => ?_) (fun (h55 : x50.toInt < b11.toInt) => ?_)
      · skip
        exact zV126 w0 k0 k1 k4 u2 n5 hF hs m12 hSA hpe fs fc hcA hWM0 e5 e6 e7 X53 hI48 h8 e9 hlt (Or.inr (by omega)) ⟨by omega, by omega⟩ kT
      have hwB := z_woB (j := p2.toInt.toNat) hF b8.toInt.toNat (by omega)
      refine z_xP zt126 40 113 [some (.ref a0), some (.ref a1), some (.int p2), some (.int p3), some (.ref a4), some (.int b5), some (.int b6), some (.int b7), some (.int b8), some (.int b9), some (.int b10), some (.int b11), o12] [.int b8, .int p2, .ref a1, .int b9] rfl rfl ?_
      refine z_xcV (vs := [.ref a1, .int p2, .int b8]) (r := [.int b9]) (L2 := [some (.ref a1), some (.int p2), some (.int b8)]) zt126 41 rfl zo126 zzcV4_121 (Or.inl rfl) rfl X53 k1 rfl rfl rfl (Nat.le_of_ble_eq_true rfl) zzm128 (Nat.le_of_ble_eq_true rfl) rfl ?_
      refine zUC128 (hS.ke X49 (by decide)) ⟨by omega, by omega⟩ ⟨by omega, by omega⟩ (fun x98 M96 X97 h99 => ?_)
      rw [z_woF] at h99
      have X101 := X53.go X97 (z_sb (by decide))
      have hI96 := hI48.ke X97 (by decide) (X97.2.a k4 (by decide))
      show z_ev (d + 5) 126 116 [some (.ref a0), some (.ref a1), some (.int p2), some (.int p3), some (.ref a4), some (.int b5), some (.int b6), some (.int b7), some (.int b8), some (.int b9), some (.int b10), some (.int b11), o12] [.int x98, .int b9] M96 _
      refine z_xP zt126 42 118 [some (.ref a0), some (.ref a1), some (.int p2), some (.int p3), some (.ref a4), some (.int b5), some (.int b6), some (.int b7), some (.int b8), some (.int b9), some (.int b10), some (.int b11), o12] [.int b8, .int x98, .int b9] rfl rfl ?_
      refine z_xI zt126 43 rfl rfl (fun (x103 : Int32) (h104 : x103.toInt = x98.toInt + b8.toInt) => ?_) (z_pAdd rfl rfl (by omega) (by omega))
      refine z_xP zt126 44 122 [some (.ref a0), some (.ref a1), some (.int p2), some (.int p3), some (.ref a4), some (.int b5), some (.int b6), some (.int b7), some (.int b8), some (.int b9), some (.int b10), some (.int b11), o12] [.int 2, .int b8, .int x103, .int b9] rfl rfl ?_
      refine z_xI zt126 45 rfl rfl (fun (x105 : Int32) (h106 : x105.toInt = b8.toInt + 2) => ?_) (z_pAdd rfl rfl (by omega) (by omega))
      refine z_xcS (vs := [.int x103, .int x105]) (r := [.int b9]) (L2 := [some (.int x103), some (.int x105)]) zt126 46 rfl zo126 zzcS4_125 (Or.inr rfl) (Nat.le_of_ble_eq_true rfl) rfl rfl (Nat.le_of_ble_eq_true rfl) zzm105 (Nat.le_of_ble_eq_true rfl) rfl ?_
      refine zUC105 (a := z_wo F p2.toInt.toNat b8.toInt.toNat + b8.toInt.toNat) (b := b8.toInt.toNat + 2) X101.1 (hcA.ke hWM0 X101.2 (by decide)) (by omega) (by omega) (by omega) (by omega) (fun x109 M107 X108 h110 => ?_)
      have hI107 := hI96.ke X108 (by decide) (X108.2.a k4 (by decide))
      have X112 := X101.go X108 (z_sb (by decide))
      show z_ev (d + 5) 126 126 [some (.ref a0), some (.ref a1), some (.int p2), some (.int p3), some (.ref a4), some (.int b5), some (.int b6), some (.int b7), some (.int b8), some (.int b9), some (.int b10), some (.int b11), o12] [.int x109, .int b9] M107 _
      have h114 := z_b32 b9
      have eRS := z_RoS (o := z_wo F p2.toInt.toNat) (b := b8.toInt.toNat) (n - 1) (by omega)
      refine z_xI zt126 47 rfl rfl (fun (x115 : Int32) (h116 : x115.toInt = b9.toInt - x109.toInt) => ?_) (z_pSub rfl rfl (by omega) (by omega))
      refine z_xP zt126 48 129 [some (.ref a0), some (.ref a1), some (.int p2), some (.int p3), some (.ref a4), some (.int b5), some (.int b6), some (.int b7), some (.int b8), some (.int x115), some (.int b10), some (.int b11), o12] [] rfl rfl ?_
      refine z_xN zt126 49 rfl rfl (fun (x117 : Int32) (h118 : x117.toInt = b8.toInt + 1) => ?_) (z_pAdd rfl rfl (by omega) (by omega))
      show z_ev (d + 5) 126 132 [some (.ref a0), some (.ref a1), some (.int p2), some (.int p3), some (.ref a4), some (.int b5), some (.int b6), some (.int b7), some (.int x117), some (.int x115), some (.int b10), some (.int b11), o12] [] M107 _
      refine z_xP zt126 50 84 [some (.ref a0), some (.ref a1), some (.int p2), some (.int p3), some (.ref a4), some (.int b5), some (.int b6), some (.int b7), some (.int x117), some (.int x115), some (.int b10), some (.int b11), o12] [] rfl rfl ?_
      have es : x117.toInt.toNat = b8.toInt.toNat + 1 := by omega
      refine ih.2 M107 x117 x115 b10 b11 o12 X112 hI107 ⟨by omega, by omega⟩ (by rw [es]; omega) (fun i hi => ?_) hx hb (by omega)
      by_cases c : i = b8.toInt.toNat
      · rw [c]
        omega
      · exact hlt i (by omega)
theorem zUC126 {T : List zK} {d : Nat} {K : Option Value → zH → Prop} {a0 ci a1 a4 N q1 t1 m1 pr en sa n : Nat} {B F : Nat → Nat} {S : Nat → Int32} {A sh ch p2 p3 : Int32} {M0 : zH} (w0 : 4 ≤ ci ∧ ci ≤ 11) (k0 : T[a0]? = some (.inl (ci, 0, 0, 0, 0))) (k1 : T[a1]? = some (.inl (3, q1, t1, m1, 5))) (k4 : T[a4]? = some (.inr (300, 0, 16380, (-2147483648), 2147483647))) (u2 : 0 ≤ p2.toInt ∧ p2.toInt < (n : Int)) (n5 : n ≤ 5) (hF : ∀ j, j < n → F j < m1) (hs : z_sr F n) (m12 : m1 ≤ 12) (hSA : z_SA q1 m1 S A) (hpe : pr < 1024 ∧ en < 1024) (fs : z_F M0 a0 1 = some (.int sh)) (fc : z_F M0 a0 2 = some (.int ch)) (hcA : z_cA M0) (hWM0 : z_W M0 T) {G : Nat → Nat} (hS : z_TSG T M0 a1 N q1 t1 m1 pr en sa n B F G S A) (hRM : z_RM M0 a4 ci B q1 pr en sh.toInt.toNat ch.toInt.toNat m1 n S A) (hoW0 : z_oW ci B q1 pr en sh.toInt.toNat ch.toInt.toNat n S A F p3.toInt) (kk : ∀ (x : Int32) (M1 : zH) (G : Nat → Nat), z_X T zw126 M0 M1 → z_TSG T M1 a1 N q1 t1 m1 pr en sa n B F G S A → z_RM M1 a4 ci B q1 pr en sh.toInt.toNat ch.toInt.toNat m1 n S A → ((x.toInt = 0 ∧ ∀ w, w < m1 → ¬ z_twBe ci B q1 pr en sh.toInt.toNat ch.toInt.toNat n S A F p2.toInt.toNat (z_lke (S (F p2.toInt.toNat)).toInt.toNat (p3.toInt.toNat % 1024) (p3.toInt.toNat / 1024) 10) w) ∨ (x.toInt = 1 ∧ ∃ w, w < m1 ∧ z_twBe ci B q1 pr en sh.toInt.toNat ch.toInt.toNat n S A F p2.toInt.toNat (z_lke (S (F p2.toInt.toNat)).toInt.toNat (p3.toInt.toNat % 1024) (p3.toInt.toNat / 1024) 10) w)) → K (some (.int x)) M1) : z_ev (d + 5) 126 0 [some (.ref a0), some (.ref a1), some (.int p2), some (.int p3), some (.ref a4), none, none, none, none, none, none, none, none] [] M0 K := by
  obtain ⟨⟨hWM, hbk⟩, kb, ⟨hN0, hag⟩, ⟨hsa, ksa, hSS⟩, hA, ⟨_, jv4, hj4, ejv4⟩, hnu, har, hln, hlz⟩ := id hS
  have X : z_X T zw126 M0 M0 := .refl hWM0
  have g1 := X.1.p3 k1
  have q1b : 1 ≤ q1 ∧ q1 ≤ 10 := hSA.1
  have hj : p2.toInt.toNat < n := by omega
  have hFj := hF _ hj
  refine z_xP zt126 0 1 [some (.ref a0), some (.ref a1), some (.int p2), some (.int p3), some (.ref a4), none, none, none, none, none, none, none, none] [.ref a1] rfl rfl ?_
  refine z_xgR (κ := .inr (210, 0, 5, 0, ((m1 : Nat) : Int) - 1)) zt126 1 rfl zo126 zzf4_115 X k1 (by decide) (by decide) rfl (fun (a2 : Nat) h1 k3 => ?_)
  obtain rfl : a2 = a1 + 8 := z_rfe h1 (hbk _ _ _ _ _ kb).2.2.2.2.2.2.2.1
  refine z_xP zt126 2 5 [some (.ref a0), some (.ref a1), some (.int p2), some (.int p3), some (.ref a4), none, none, none, none, none, none, none, none] [.int p2, .ref (a1 + 8)] rfl rfl ?_
  refine z_xil zt126 3 rfl X k3 (by decide) (by omega) (by omega) (fun (x4 : Int32) h5 (h6 : 0 ≤ x4.toInt) (h7 : x4.toInt ≤ ((m1 : Nat) : Int) - 1) => ?_)
  have e5 : x4.toInt = ((F p2.toInt.toNat : Nat) : Int) := (congrArg Int32.toInt h5).symm.trans (hnu p2.toInt.toNat hj)
  refine z_xP zt126 4 9 [some (.ref a0), some (.ref a1), some (.int p2), some (.int p3), some (.ref a4), some (.int x4), none, none, none, none, none, none, none] [.ref a1] rfl rfl ?_
  refine z_xgR (κ := .inl (2, q1, t1, m1, 0)) zt126 5 rfl zo126 zzf4_50 X k1 (by decide) (by decide) rfl (fun (a9 : Nat) h8 k10 => ?_)
  obtain rfl : a9 = N := z_rfe h8 hN0
  have g11 := X.1.p2 k10
  refine z_xP zt126 6 13 [some (.ref a0), some (.ref a1), some (.int p2), some (.int p3), some (.ref a4), some (.int x4), none, none, none, none, none, none, none] [.ref a1, .ref a9] rfl rfl ?_
  refine z_xgv zt126 7 rfl zo126 zzf4_50 X k1 (by decide) h8 ?_
  refine z_xgR (κ := .inr (102, 0, m1, 0, 1023)) zt126 8 rfl zo126 zzf4_82 X k10 (by decide) (by decide) rfl (fun (a13 : Nat) h12 k14 => ?_)
  obtain rfl : a13 = sa := z_rfe h12 hsa
  refine z_xP zt126 9 21 [some (.ref a0), some (.ref a1), some (.int p2), some (.int p3), some (.ref a4), some (.int x4), none, none, none, none, none, none, none] [.int x4, .ref a13, .ref a9] rfl rfl ?_
  refine z_xil zt126 10 rfl X k14 (by decide) (by omega) (by omega) (fun (x15 : Int32) h16 (h17 : 0 ≤ x15.toInt) (h18 : x15.toInt ≤ 1023) => ?_)
  have ex15 : x15 = S (F p2.toInt.toNat) := by
    rw [← h16, ← hSS _ hFj]
    show z_Ar M0 a13 x4.toInt.toNat = _
    rw [e5]
    rfl
  refine z_xcV (vs := [.ref a9, .int x15]) (r := []) (L2 := [some (.ref a9), some (.int x15)]) zt126 11 rfl zo126 zzcV4_74 (Or.inl rfl) rfl X k10 rfl rfl rfl (Nat.le_of_ble_eq_true rfl) zzm39 (Nat.le_of_ble_eq_true rfl) rfl ?_
  refine z_xP zt39 0 2 [some (.ref a9), some (.int x15)] [.ref a9, .int x15] rfl rfl ?_
  refine z_xgI zt39 1 rfl zo39 zzf2_32 X k10 (by decide) (by decide) rfl (fun (x20 : Int32) h19 (h21 : ((z_po q1 : Nat) : Int) - 1 ≤ x20.toInt) (h22 : x20.toInt ≤ ((z_po q1 : Nat) : Int) - 1) => ?_)
  refine z_xP zt39 2 7 [some (.ref a9), some (.int x15)] [.int (-1), .int x15, .int x20, .int x15] rfl rfl ?_
  refine z_xI zt39 3 rfl rfl (fun (x23 : Int32) (h23 : x23 = x15 ^^^ (-1 : Int32)) => ?_) rfl
  refine z_xI zt39 4 rfl rfl (fun (x25 : Int32) (h26 : x25 = x20 &&& x23) => ?_) rfl
  refine z_xP zt39 5 11 [some (.ref a9), some (.int x15)] [.int 10, .int x25, .int x15] rfl rfl ?_
  refine z_xI zt39 6 rfl rfl (fun (x27 : Int32) (h28 : x27 = x25 <<< ((10 : Int32) &&& 31)) => ?_) rfl
  refine z_xI zt39 7 rfl rfl (fun (x29 : Int32) (h30 : x29 = x15 ||| x27) => ?_) rfl
  have hA2 : x20.toInt = ((2 ^ q1 : Nat) : Int) - 1 := by
    have e : z_po q1 = 2 ^ q1 := rfl
    rw [← e]
    omega
  have hy0 := hSA.2.2 (F p2.toInt.toNat) hFj
  have hmi := z_answo hA2 q1b.2 (v := x15) (by rw [ex15]; exact hy0.1) (by rw [ex15]; exact hy0.2) h23 h26 h28 h30
  rw [ex15] at hmi
  refine z_xri zt39 8 rfl zzr39 ?_
  show z_ev (d + 5) 126 25 [some (.ref a0), some (.ref a1), some (.int p2), some (.int p3), some (.ref a4), some (.int x4), none, none, none, none, none, none, none] [.int x29] M0 _
  refine z_xP zt126 12 30 [some (.ref a0), some (.ref a1), some (.int p2), some (.int p3), some (.ref a4), some (.int x4), some (.int x29), none, none, none, none, none, none] [.int x29, .int p3] rfl rfl ?_
  refine z_xI zt126 13 rfl rfl (fun (x31 : Int32) (h31 : x31 = p3 &&& x29) => ?_) rfl
  obtain ⟨_, _, _, _, _, hwo⟩ := id hoW0.2
  have hdl := z_outL hwo q1b.1
  have hlk := z_lkC hoW0.1 hdl.2 (show (S (F p2.toInt.toNat)).toInt.toNat < 2 ^ q1 by generalize 2 ^ q1 = Pq at *; omega) hmi h31
  refine z_xcS (vs := [.int x31]) (r := []) (L2 := [some (.int x31)]) zt126 14 rfl zo126 zzcS4_77 (Or.inl rfl) (Nat.le_of_ble_eq_true rfl) rfl rfl (Nat.le_of_ble_eq_true rfl) zzm31 (Nat.le_of_ble_eq_true rfl) rfl ?_
  refine zUC31 X.1 hlk.1 (fun x35 M33 X34 h36 h37 h35 => ?_)
  rw [hlk.2] at h35
  have X38 := X.go X34 (z_sb (by decide))
  show z_ev (d + 5) 126 34 [some (.ref a0), some (.ref a1), some (.int p2), some (.int p3), some (.ref a4), some (.int x4), some (.int x29), none, none, none, none, none, none] [.int x35] M33 _
  refine z_xP zt126 15 39 [some (.ref a0), some (.ref a1), some (.int p2), some (.int p3), some (.ref a4), some (.int x4), some (.int x29), some (.int x35), none, none, none, none, none] [.ref a1, .int x35] rfl rfl ?_
  have h40 := (X34.2.f k1 (by decide) h8)
  refine z_xgv zt126 16 rfl zo126 zzf4_50 X38 k1 (by decide) h40 ?_
  refine z_xgI zt126 17 rfl zo126 zzf4_85 X38 k10 (by decide) (by decide) rfl (fun (x42 : Int32) h41 (h43 : (q1 : Int) ≤ x42.toInt) (h44 : x42.toInt ≤ (q1 : Int)) => ?_)
  have hS33 := hS.ke X34 (by decide)
  have hRM33 := hRM.eq (X34.2.a k4 (by decide))
  refine z_xJ zt126 18 rfl rfl (fun (h45 : x35.toInt ≠ x42.toInt) => ?_) (fun (h45 : x35.toInt = x42.toInt) => ?_)
  · skip
    refine z_xP zt126 21 55 [some (.ref a0), some (.ref a1), some (.int p2), some (.int p3), some (.ref a4), some (.int x4), some (.int x29), some (.int x35), some (.int 0), none, none, none, none] [.int p2, .ref a1] rfl rfl ?_
    refine z_xcV (vs := [.ref a1, .int p2]) (r := []) (L2 := [some (.ref a1), some (.int p2), none, none]) zt126 22 rfl zo126 zzcV4_118 (Or.inl rfl) rfl X38 k1 rfl rfl rfl (Nat.le_of_ble_eq_true rfl) zzm127 (Nat.le_of_ble_eq_true rfl) rfl ?_
    refine zUC127 hS33 (fun i hi => Nat.lt_of_lt_of_le (hF i hi) m12) (hcA.ke hWM0 X38.2 (by decide)) ⟨by omega, by omega⟩ (by omega) (fun x48 M46 X47 h48 => ?_)
    have X49 := X38.go X47 (z_sb (by decide))
    have hI : z_twIn T M46 a1 a4 a9 q1 t1 m1 pr en a13 n B F S A ci sh.toInt.toNat ch.toInt.toNat p2.toInt.toNat := ⟨⟨F p2.toInt.toNat, G, hFj, by rw [z_fx1S]; exact hS33.ke X47 (by decide)⟩, hRM33.eq (X47.2.a k4 (by decide))⟩
    show z_ev (d + 5) 126 58 [some (.ref a0), some (.ref a1), some (.int p2), some (.int p3), some (.ref a4), some (.int x4), some (.int x29), some (.int x35), some (.int 0), none, none, none, none] [.int x48] M46 _
    refine z_xP zt126 23 66 [some (.ref a0), some (.ref a1), some (.int p2), some (.int p3), some (.ref a4), some (.int x4), some (.int x29), some (.int x35), some (.int 0), some (.int x48), some (.int 0), some (.int 0), none] [] rfl rfl ?_
    have q0 : ((0 : Int32)).toInt = 0 := rfl
    exact (zUB126 w0 k0 k1 k4 u2 n5 hF hs m12 hSA hpe fs fc hcA hWM0 e5 hmi h35 kk 20500).1 M46 (0) x48 (0) (0) none X49 hI ⟨by omega, by omega⟩ h48 (fun i hi => absurd hi (Nat.not_lt_zero i)) ⟨by omega, by omega⟩ (Or.inl ⟨rfl, fun w hw => absurd hw (Nat.not_lt_zero w)⟩) (by omega)
  refine z_xP zt126 19 49 [some (.ref a0), some (.ref a1), some (.int p2), some (.int p3), some (.ref a4), some (.int x4), some (.int x29), some (.int x35), none, none, none, none, none] [.int 0] rfl rfl ?_
  have q0 : ((0 : Int32)).toInt = 0 := rfl
  refine z_xrz zt126 20 rfl zzr126 (by decide) (by decide) (kk 0 M33 G X38 hS33 hRM33 (Or.inl ⟨rfl, fun w hw ⟨y, u, g1, g2⟩ => ?_⟩))
  obtain ⟨_, _, _, _, _, hw2⟩ := id g1
  have hd2 := z_outL hw2 q1b.1
  have := (z_lkl (o := (S (F p2.toInt.toNat)).toInt.toNat) hd2.1 hd2.2 10).2
  omega
