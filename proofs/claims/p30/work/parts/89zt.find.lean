/-! turns of the reference, told -/
/-- what is yes where heads leave it open -/
def z_ropn (M : zH) (sv p : Int32) (k : Nat) : Prop := (0 ≤ p.toInt ∧ p.toInt < sv.toInt) ∧ (z_Ar M 40 p.toInt.toNat).toInt.toNat / 2 ^ k % 2 = 1
theorem z_tuA1 {B : Nat → Nat} {q y n k : Nat} {lk : Int} {op : Prop} (h : z_F1 B q y n k) : z_tuY B q lk op y n k := Or.inl h
theorem z_tuA0 {B : Nat → Nat} {q y n k : Nat} {lk : Int} {op : Prop} (h : z_F0 B q y n k) : ¬ z_tuY B q lk op y n k := fun a => a.elim (fun b => h.2 b.1) fun b => h.2 (b.1.mpr h.1)
theorem zUB246 {T : List zK} {d : Nat} {K : Option Value → zH → Prop} {a q m pr en : Nat} {oo : Nat → Nat} {B : Nat → Nat} {av sv p1 : Int32} {M0 : zH} (hR : z_RP T M0 a q m pr en B av sv) (u1 : (-1) ≤ p1.toInt ∧ p1.toInt ≤ 8) (ho : ∀ i, i < q → (z_Ar M0 42 i).toInt = ((oo i : Nat) : Int)) (hoo : ∀ i, i < q → oo i < q) (kk : ∀ (M1 : zH) (y n : Int32), z_X T zw246 M0 M1 → z_F M1 19 34 = some (.int y) → z_F M1 19 35 = some (.int n) → ((0 ≤ y.toInt ∧ y.toInt < 1024) ∧ (0 ≤ n.toInt ∧ n.toInt < 1024)) → z_tuR B q (z_LV M0 sv) (z_ropn M0 sv p1) oo q y.toInt.toNat n.toInt.toNat → K none M1) : ∀ n : Nat, (∀ (M : zH) (b2 y0 n0 : Int32) (o3 o4 o5 : Option Value), z_X T zw246 M0 M → 0 ≤ b2.toInt ∧ b2.toInt ≤ 10 → b2.toInt ≤ (q : Int) → z_F M 19 34 = some (.int y0) → z_F M 19 35 = some (.int n0) → ((0 ≤ y0.toInt ∧ y0.toInt < 1024) ∧ (0 ≤ n0.toInt ∧ n0.toInt < 1024)) → z_tuR B q (z_LV M0 sv) (z_ropn M0 sv p1) oo b2.toInt.toNat y0.toInt.toNat n0.toInt.toNat → ((0) * 2 + 0) * 11 + (10 - b2.toInt) < (n : Int) → z_ev (d + 2) 246 2 [some (.ref 19), some (.int p1), some (.int b2), o3, o4, o5] [] M K) := by
  intro n
  induction n with
  | zero => exact by intros; exfalso; omega
  | succ n ih =>
    intro M b2 y0 n0 o3 o4 o5 X hh0 hq0 hy hn hyn hI hE
    obtain ⟨hW, ⟨hb9, ea, a8⟩, ⟨hs, hsv⟩, ⟨q1, q10⟩, ⟨t, hG⟩, hm, hans, hok⟩ := hR.ke X (by decide)
    have e24 := hG.1
    have e31 := hG.2.2.2.2.1
    have hLS := hG.2.2.2.2.2.2
    have hW0 := hR.1
    have h40 : z_Ar M 40 = z_Ar M0 40 := X.2.a (hW0.k (k := 40) (κ := z_af 40 9) rfl (by decide)) (by decide)
    have hLV := z_LV.ke (sv := sv) hW0 X (by decide)
    refine z_xP zt246 1 4 [some (.ref 19), some (.int p1), some (.int b2), o3, o4, o5] [.ref 19, .int b2] rfl rfl ?_
    have f19 : T[19]? = some (.inl (12, 0, 0, 0, 0)) := X.1.k rfl (by decide)
    refine z_xgX (b := 24) zt246 2 rfl zo246 zzf12_22 X f19 (by decide) (by decide) rfl ?_
    refine z_xP zt246 3 8 [some (.ref 19), some (.int p1), some (.int b2), o3, o4, o5] [.ref 19, .ref 24, .int b2] rfl rfl ?_
    refine z_xgv zt246 4 rfl zo246 zzf12_242 X f19 (by decide) hb9 ?_
    have f24 : T[24]? = some (.inr (24, 0, 8, 0, 10)) := X.1.k rfl (by decide)
    refine z_xil zt246 5 rfl X f24 (by decide) (by omega) (by omega) (fun (x5 : Int32) h6 (h7 : 0 ≤ x5.toInt) (h8 : x5.toInt ≤ 10) => ?_)
    have e5 : x5.toInt = (q : Int) := by rw [← h6, z_tnA ea]; exact e24
    refine z_xJ zt246 6 rfl rfl (fun (h9 : x5.toInt ≤ b2.toInt) => ?_) (fun (h9 : b2.toInt < x5.toInt) => ?_)
    · skip
      rw [show b2.toInt.toNat = q by omega] at hI
      exact z_xrv zt246 52 rfl zzr246 (kk M y0 n0 X hy hn hyn hI)
    refine z_xP zt246 7 16 [some (.ref 19), some (.int p1), some (.int b2), o3, o4, o5] [.ref 19] rfl rfl ?_
    refine z_xgX (b := 42) zt246 8 rfl zo246 zzf12_76 X f19 (by decide) (by decide) rfl ?_
    refine z_xP zt246 9 20 [some (.ref 19), some (.int p1), some (.int b2), o3, o4, o5] [.int b2, .ref 42] rfl rfl ?_
    have f42 : T[42]? = some (.inr (42, 0, 10, 0, 9)) := X.1.k rfl (by decide)
    refine z_xil zt246 10 rfl X f42 (by decide) (by omega) (by omega) (fun (x10 : Int32) h11 (h12 : 0 ≤ x10.toInt) (h13 : x10.toInt ≤ 9) => ?_)
    have e10 : x10.toInt = ((oo b2.toInt.toNat : Nat) : Int) := by
      rw [← ho b2.toInt.toNat (by omega), ← h11, X.2.a (hW0.k (k := 42) (κ := z_ai 42 10 0 9) rfl (by decide)) (by decide)]
      rfl
    have hk : oo b2.toInt.toNat < q := hoo _ (by omega)
    have ek : x10.toInt.toNat = oo b2.toInt.toNat := by omega
    -- the answer is given, and the next turn
    have fin : ∀ (M' : zH) (w : Int32) (v5 v4 : Value), z_X T zw246 M0 M' → z_F M' 19 34 = some (.int y0) → z_F M' 19 35 = some (.int n0) → ((w.toInt = 1 ∧ z_tuY B q (z_LV M0 sv x10.toInt.toNat) (z_ropn M0 sv p1 x10.toInt.toNat) y0.toInt.toNat n0.toInt.toNat x10.toInt.toNat) ∨ (w.toInt = 0 ∧ ¬ z_tuY B q (z_LV M0 sv x10.toInt.toNat) (z_ropn M0 sv p1 x10.toInt.toNat) y0.toInt.toNat n0.toInt.toNat x10.toInt.toNat)) → z_ev (d + 2) 246 113 [some (.ref 19), some (.int p1), some (.int b2), some (.int x10), some v4, some v5] [.int w, .int x10, .ref 19] M' K := fun M' w v5 v4 X' hy' hn' hw => by
      refine z_xcV (vs := [.ref 19, .int x10, .int w]) (r := []) (L2 := [some (.ref 19), some (.int x10), some (.int w)]) zt246 49 rfl zo246 zzcV12_284 (Or.inl rfl) rfl X' f19 rfl rfl rfl (Nat.le_of_ble_eq_true rfl) zzm243 (Nat.le_of_ble_eq_true rfl) rfl ?_
      refine zUC243 X'.1 hy' hn' (fun M3 y3 n3 X3 hy3 hn3 ha => ?_)
      have X4 := X'.go X3 (z_sb (by decide))
      show z_ev (d + 2) 246 116 [some (.ref 19), some (.int p1), some (.int b2), some (.int x10), some v4, some v5] [] M3 _
      refine z_xN zt246 50 rfl rfl (fun (x50 : Int32) (h51 : x50.toInt = b2.toInt + 1) => ?_) (z_pAdd rfl rfl (by omega) (by omega))
      show z_ev (d + 2) 246 119 [some (.ref 19), some (.int p1), some (.int x50), some (.int x10), some v4, some v5] [] M3 _
      refine z_xP zt246 51 2 [some (.ref 19), some (.int p1), some (.int x50), some (.int x10), some v4, some v5] [] rfl rfl ?_
      have es : x50.toInt.toNat = b2.toInt.toNat + 1 := by omega
      have k10 : x10.toInt.toNat < 10 := by omega
      rcases hw with ⟨w1, w2⟩ | ⟨w1, w2⟩
      · rcases ha with ⟨_, a2, a3⟩ | ⟨a1, _⟩ | ⟨a1, _⟩
        · have h5 := z_orN hyn.1 k10 (x6 := x10) (by omega) a2
          refine ih M3 x50 y3 n3 (some (.int x10)) (some v4) (some v5) X4 ⟨by omega, by omega⟩ (by omega) hy3 hn3 ⟨h5.1, by rw [a3]; exact hyn.2⟩ ?_ (by omega)
          rw [es]
          refine ⟨_, _, hI, Or.inl ⟨?_, ?_, by rw [a3]⟩⟩
          · (try dsimp only)
            rw [← ek]
            exact w2
          · (try dsimp only)
            rw [← ek]
            exact h5.2
        · omega
        · exact absurd w1 a1
      · rcases ha with ⟨a1, _⟩ | ⟨_, a2, a3⟩ | ⟨_, a1, _⟩
        · omega
        · have h5 := z_orN hyn.2 k10 (x6 := x10) (by omega) a3
          refine ih M3 x50 y3 n3 (some (.int x10)) (some v4) (some v5) X4 ⟨by omega, by omega⟩ (by omega) hy3 hn3 ⟨by rw [a2]; exact hyn.1, h5.1⟩ ?_ (by omega)
          rw [es]
          refine ⟨_, _, hI, Or.inr ⟨?_, by rw [a2], ?_⟩⟩
          · (try dsimp only)
            rw [← ek]
            exact w2
          · (try dsimp only)
            rw [← ek]
            exact h5.2
        · exact absurd w1 a1
    -- forced, by heads, or open
    have own : ∀ (M' : zH) (v : Int32) (v4 : Value), z_X T zw246 M0 M' → z_F M' 19 34 = some (.int y0) → z_F M' 19 35 = some (.int n0) → ((v.toInt = 1 ∧ z_tuY B q (z_LV M0 sv x10.toInt.toNat) (z_ropn M0 sv p1 x10.toInt.toNat) y0.toInt.toNat n0.toInt.toNat x10.toInt.toNat) ∨ (v.toInt = 0 ∧ ¬ z_tuY B q (z_LV M0 sv x10.toInt.toNat) (z_ropn M0 sv p1 x10.toInt.toNat) y0.toInt.toNat n0.toInt.toNat x10.toInt.toNat) ∨ (v.toInt < 0 ∧ (z_tuY B q (z_LV M0 sv x10.toInt.toNat) (z_ropn M0 sv p1 x10.toInt.toNat) y0.toInt.toNat n0.toInt.toNat x10.toInt.toNat ↔ z_ropn M0 sv p1 x10.toInt.toNat))) → z_ev (d + 2) 246 56 [some (.ref 19), some (.int p1), some (.int b2), some (.int x10), some v4, o5] [.int v] M' K := fun M' v v4 X' hy' hn' hv => by
      have f40' : T[40]? = some (.inr (40, 0, 9, (-2147483648), 2147483647)) := X'.1.k rfl (by decide)
      have end1 : ∀ (u : Int32), ((u.toInt = 1 ∧ z_ropn M0 sv p1 x10.toInt.toNat) ∨ (u.toInt = 0 ∧ ¬ z_ropn M0 sv p1 x10.toInt.toNat)) → z_ev (d + 2) 246 97 [some (.ref 19), some (.int p1), some (.int b2), some (.int x10), some (.int v), o5] [.int u] M' K := fun u hu => by
        refine z_xP zt246 45 103 [some (.ref 19), some (.int p1), some (.int b2), some (.int x10), some (.int v), some (.int u)] [.int v, .int x10, .ref 19] rfl rfl ?_
        refine z_xZ zt246 46 rfl rfl (fun (h61 : 0 ≤ v.toInt) => ?_) (fun (h61 : v.toInt < 0) => ?_)
        · skip
          refine z_xP zt246 48 113 [some (.ref 19), some (.int p1), some (.int b2), some (.int x10), some (.int v), some (.int u)] [.int v, .int x10, .ref 19] rfl rfl ?_
          refine fin M' v (.int u) (.int v) X' hy' hn' ?_
          rcases hv with hv | hv | ⟨hv, _⟩
          · exact Or.inl hv
          · exact Or.inr hv
          · omega
        · refine z_xP zt246 47 113 [some (.ref 19), some (.int p1), some (.int b2), some (.int x10), some (.int v), some (.int u)] [.int u, .int x10, .ref 19] rfl rfl ?_
          refine fin M' u (.int u) (.int v) X' hy' hn' ?_
          rcases hv with ⟨hv, _⟩ | ⟨hv, _⟩ | ⟨_, hv⟩
          · omega
          · omega
          · rw [hv]
            exact hu
      refine z_xP zt246 25 59 [some (.ref 19), some (.int p1), some (.int b2), some (.int x10), some (.int v), o5] [.int p1] rfl rfl ?_
      refine z_xZ zt246 26 rfl rfl (fun (h30 : p1.toInt < 0) => ?_) (fun (h30 : 0 ≤ p1.toInt) => ?_)
      · skip
        refine z_xP zt246 44 97 [some (.ref 19), some (.int p1), some (.int b2), some (.int x10), some (.int v), o5] [.int 0] rfl rfl ?_
        exact end1 0 (Or.inr ⟨rfl, fun c => by have := c.1.1; omega⟩)
      refine z_xP zt246 27 64 [some (.ref 19), some (.int p1), some (.int b2), some (.int x10), some (.int v), o5] [.ref 19, .int p1] rfl rfl ?_
      have hs' := (hR.ke X' (by decide)).2.2.1.1
      refine z_xgv zt246 28 rfl zo246 zzf12_245 X' f19 (by decide) hs' ?_
      refine z_xJ zt246 29 rfl rfl (fun (h74 : sv.toInt ≤ p1.toInt) => ?_) (fun (h74 : p1.toInt < sv.toInt) => ?_)
      · skip
        refine z_xP zt246 44 97 [some (.ref 19), some (.int p1), some (.int b2), some (.int x10), some (.int v), o5] [.int 0] rfl rfl ?_
        exact end1 0 (Or.inr ⟨rfl, fun c => by have := c.1.2; omega⟩)
      refine z_xP zt246 30 71 [some (.ref 19), some (.int p1), some (.int b2), some (.int x10), some (.int v), o5] [.ref 19] rfl rfl ?_
      refine z_xgX (b := 40) zt246 31 rfl zo246 zzf12_70 X' f19 (by decide) (by decide) rfl ?_
      refine z_xP zt246 32 75 [some (.ref 19), some (.int p1), some (.int b2), some (.int x10), some (.int v), o5] [.int p1, .ref 40] rfl rfl ?_
      refine z_xZ zt246 33 rfl rfl (fun (h50 : p1.toInt < 0) => absurd h50 (by omega)) (fun (h50 : 0 ≤ p1.toInt) => ?_)
      refine z_xP zt246 34 83 [some (.ref 19), some (.int p1), some (.int b2), some (.int x10), some (.int v), o5] [.int p1, .ref 40] rfl rfl ?_
      refine z_xil zt246 36 rfl X' f40' (by decide) (by omega) (by omega) (fun (x51 : Int32) h52 (h53 : (-2147483648) ≤ x51.toInt) (h54 : x51.toInt ≤ 2147483647) => ?_)
      have h51n : z_Ar M0 40 p1.toInt.toNat = x51 := (congrFun (X'.2.a (hW0.k (k := 40) (κ := z_af 40 9) rfl (by decide)) (by decide)) _).symm.trans h52
      have x51n : 0 ≤ x51.toInt := by
        have h := (hans p1.toInt.toNat (by omega)).1.1
        rw [h40, h51n] at h
        exact h
      refine z_xP zt246 37 85 [some (.ref 19), some (.int p1), some (.int b2), some (.int x10), some (.int v), o5] [.int x10, .int x51] rfl rfl ?_
      refine z_xI zt246 38 rfl rfl (fun (x56 : Int32) (h56 : x56 = x51 >>> (x10 &&& 31)) => ?_) rfl
      refine z_xP zt246 39 87 [some (.ref 19), some (.int p1), some (.int b2), some (.int x10), some (.int v), o5] [.int 1, .int x56] rfl rfl ?_
      refine z_xI zt246 40 rfl rfl (fun (x58 : Int32) (h58 : x58 = x56 &&& 1) => ?_) rfl
      have hbit := z_sbit h56 h58 x51n ⟨by omega, by omega⟩
      refine z_xP zt246 41 89 [some (.ref 19), some (.int p1), some (.int b2), some (.int x10), some (.int v), o5] [.int 1, .int x58] rfl rfl ?_
      refine z_xJ zt246 42 rfl rfl (fun (h60 : x58.toInt ≠ 1) => ?_) (fun (h60 : x58.toInt = 1) => ?_)
      · skip
        refine z_xP zt246 44 97 [some (.ref 19), some (.int p1), some (.int b2), some (.int x10), some (.int v), o5] [.int 0] rfl rfl ?_
        refine end1 0 (Or.inr ⟨rfl, fun c => ?_⟩)
        have h := c.2
        rw [h51n] at h
        omega
      refine z_xP zt246 43 97 [some (.ref 19), some (.int p1), some (.int b2), some (.int x10), some (.int v), o5] [.int 1] rfl rfl ?_
      refine end1 1 (Or.inl ⟨rfl, ⟨⟨h30, h74⟩, ?_⟩⟩)
      rw [h51n]
      omega
    refine z_xP zt246 11 24 [some (.ref 19), some (.int p1), some (.int b2), some (.int x10), o4, o5] [.ref 19, .ref 19] rfl rfl ?_
    refine z_xgv zt246 12 rfl zo246 zzf12_242 X f19 (by decide) hb9 ?_
    refine z_xP zt246 13 28 [some (.ref 19), some (.int p1), some (.int b2), some (.int x10), o4, o5] [.ref 19, .int av, .ref 19] rfl rfl ?_
    refine z_xgv zt246 14 rfl zo246 zzf12_275 X f19 (by decide) hy ?_
    refine z_xP zt246 15 32 [some (.ref 19), some (.int p1), some (.int b2), some (.int x10), o4, o5] [.ref 19, .int y0, .int av, .ref 19] rfl rfl ?_
    refine z_xgv zt246 16 rfl zo246 zzf12_278 X f19 (by decide) hn ?_
    refine z_xP zt246 17 36 [some (.ref 19), some (.int p1), some (.int b2), some (.int x10), o4, o5] [.int x10, .int n0, .int y0, .int av, .ref 19] rfl rfl ?_
    refine z_xcV (vs := [.ref 19, .int av, .int y0, .int n0, .int x10]) (r := []) (L2 := [some (.ref 19), some (.int av), some (.int y0), some (.int n0), some (.int x10), none, none, none, none]) zt246 18 rfl zo246 zzcV12_228 (Or.inl rfl) rfl X f19 rfl rfl rfl (Nat.le_of_ble_eq_true rfl) zzm219 (Nat.le_of_ble_eq_true rfl) rfl ?_
    refine zUC219 X.1 ⟨by omega, by omega⟩ ⟨by omega, by omega⟩ (fun x24 M22 X23 h25 h26 h24 => ?_)
    rw [z_tnA ea] at h24
    have hf := z_foF hLS (by omega) q10 hyn.1 hyn.2 h24
    have X27 := X.go X23 (z_sb (by decide))
    have hy22 := X23.2.f f19 (by decide) hy
    have hn22 := X23.2.f f19 (by decide) hn
    show z_ev (d + 2) 246 39 [some (.ref 19), some (.int p1), some (.int b2), some (.int x10), o4, o5] [.int x24] M22 _
    refine z_xP zt246 19 43 [some (.ref 19), some (.int p1), some (.int b2), some (.int x10), some (.int x24), o5] [.int x24] rfl rfl ?_
    refine z_xZ zt246 20 rfl rfl (fun (h29 : 0 ≤ x24.toInt) => ?_) (fun (h29 : x24.toInt < 0) => ?_)
    · skip
      refine z_xP zt246 24 56 [some (.ref 19), some (.int p1), some (.int b2), some (.int x10), some (.int x24), o5] [.int x24] rfl rfl ?_
      refine own M22 x24 (.int x24) X27 hy22 hn22 ?_
      rcases hf with ⟨f1, f2⟩ | ⟨f1, f2⟩ | ⟨f1, _⟩
      · exact Or.inl ⟨f1, z_tuA1 f2⟩
      · exact Or.inr (Or.inl ⟨f1, z_tuA0 f2⟩)
      · omega
    have hop : z_ef B q y0.toInt.toNat n0.toInt.toNat x10.toInt.toNat 1 ↔ z_ef B q y0.toInt.toNat n0.toInt.toNat x10.toInt.toNat 0 := by
      rcases hf with ⟨f1, _⟩ | ⟨f1, _⟩ | ⟨_, f2⟩
      · omega
      · omega
      · exact f2
    refine z_xP zt246 21 48 [some (.ref 19), some (.int p1), some (.int b2), some (.int x10), some (.int x24), o5] [.int x10, .ref 19] rfl rfl ?_
    refine z_xcV (vs := [.ref 19, .int x10]) (r := []) (L2 := [some (.ref 19), some (.int x10), none, none]) zt246 22 rfl zo246 zzcV12_281 (Or.inl rfl) rfl X27 f19 rfl rfl rfl (Nat.le_of_ble_eq_true rfl) zzm242 (Nat.le_of_ble_eq_true rfl) rfl ?_
    refine zUC242 X27.1 (X23.2.f f19 (by decide) hs) ⟨hsv.1, hsv.2⟩ (fun x77 M75 X76 h78 h79 h77 => ?_)
    have X80 := X27.go X76 (z_sb (by decide))
    have hL : z_LV M22 sv x10.toInt.toNat = z_LV M0 sv x10.toInt.toNat := congrFun (z_LV.ke (sv := sv) hW0 X27 (by decide)) _
    have eI : x10 = Int32.ofNat x10.toInt.toNat := z_ofI h12 rfl
    rw [eI] at h77
    have hL2 : z_LV M22 sv x10.toInt.toNat = (z_vs (z_Ar M22 40) (z_Ar M22 39) (Int32.ofNat x10.toInt.toNat) sv.toInt.toNat).toInt - (z_vs (z_Ar M22 41) (z_Ar M22 39) (Int32.ofNat x10.toInt.toNat) sv.toInt.toNat).toInt := rfl
    rw [← hL, hL2] at own
    show z_ev (d + 2) 246 51 [some (.ref 19), some (.int p1), some (.int b2), some (.int x10), some (.int x24), o5] [.int x77] M75 _
    refine z_xP zt246 23 56 [some (.ref 19), some (.int p1), some (.int b2), some (.int x10), some (.int x24), o5] [.int x77] rfl rfl ?_
    refine own M75 x77 (.int x24) X80 (X76.2.f f19 (by decide) hy22) (X76.2.f f19 (by decide) hn22) ?_
    unfold z_hdR at h77
    rcases h77 with ⟨g1, g2⟩ | ⟨g1, g2⟩ | ⟨g1, g2⟩
    · exact Or.inl ⟨g1, Or.inr ⟨hop, Or.inl (by omega)⟩⟩
    · refine Or.inr (Or.inl ⟨g1, fun c => ?_⟩)
      rcases c with c | ⟨_, c | ⟨c, _⟩⟩
      · exact c.2 (hop.mp c.1)
      · omega
      · omega
    · refine Or.inr (Or.inr ⟨by omega, fun c => ?_, fun c => Or.inr ⟨hop, Or.inr ⟨by omega, c⟩⟩⟩)
      rcases c with c | ⟨_, c | ⟨_, c⟩⟩
      · exact absurd (hop.mp c.1) c.2
      · omega
      · exact c
theorem zUC246 {T : List zK} {d : Nat} {K : Option Value → zH → Prop} {a q m pr en : Nat} {oo : Nat → Nat} {B : Nat → Nat} {av sv p1 : Int32} {M0 : zH} (hR : z_RP T M0 a q m pr en B av sv) (u1 : (-1) ≤ p1.toInt ∧ p1.toInt ≤ 8) (hy0 : z_F M0 19 34 = some (.int 0)) (hn0 : z_F M0 19 35 = some (.int 0)) (ho : ∀ i, i < q → (z_Ar M0 42 i).toInt = ((oo i : Nat) : Int)) (hoo : ∀ i, i < q → oo i < q) (kk : ∀ (M1 : zH) (y n : Int32), z_X T zw246 M0 M1 → z_F M1 19 34 = some (.int y) → z_F M1 19 35 = some (.int n) → ((0 ≤ y.toInt ∧ y.toInt < 1024) ∧ (0 ≤ n.toInt ∧ n.toInt < 1024)) → z_tuR B q (z_LV M0 sv) (z_ropn M0 sv p1) oo q y.toInt.toNat n.toInt.toNat → K none M1) : z_ev (d + 2) 246 0 [some (.ref 19), some (.int p1), none, none, none, none] [] M0 K := by
  have X : z_X T zw246 M0 M0 := .refl hR.1
  refine z_xP zt246 0 2 [some (.ref 19), some (.int p1), some (.int 0), none, none, none] [] rfl rfl ?_
  have q0 : ((0 : Int32)).toInt = 0 := rfl
  exact (zUB246 hR u1 ho hoo kk 22) M0 (0) 0 0 none none none X (by decide) (by omega) hy0 hn0 ⟨⟨by decide, by decide⟩, ⟨by decide, by decide⟩⟩ ⟨rfl, rfl⟩ (by omega)
