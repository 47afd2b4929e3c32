/-! the loop of an agenda's constructor -/
theorem zL23 {T : List zK} {d q t N kp : Nat} {p1 p2 p3 p4 : Int32} {M0 : zH} {K : Option Value → zH → Prop} (kN : T[N]? = some (.inl (2, q, t, 0, 1))) (hbl : 1 ≤ z_bl q ∧ z_bl q ≤ 16) (hT : ∀ (many b : Int32) (M : zH), z_X T [109] M0 M → 0 ≤ many.toInt → many.toInt ≤ 64 * (z_bl q : Int) → z_ev (d + 1) 23 161 [some (.ref N), some (.int p1), some (.int p2), some (.int p3), some (.int p4), some (.ref kp), some (.int many), some (.int b)] [] M K) : ∀ (n : Nat) (b many : Int32) (M : zH), z_X T [109] M0 M → 0 ≤ b.toInt → b.toInt ≤ (z_bl q : Int) → 0 ≤ many.toInt → many.toInt ≤ 64 * b.toInt → (z_bl q : Int) - b.toInt < (n : Int) → z_ev (d + 1) 23 117 [some (.ref N), some (.int p1), some (.int p2), some (.int p3), some (.int p4), some (.ref kp), some (.int many), some (.int b)] [] M K := by
  intro n
  induction n with
  | zero => intros; exfalso; omega
  | succ n ih =>
    intro b many M X b0 b1 m0 m1 hn
    refine z_xP zt23 47 120 [some (.ref N), some (.int p1), some (.int p2), some (.int p3), some (.int p4), some (.ref kp), some (.int many), some (.int b)] [.ref N, .int b] rfl rfl ?_
    refine z_xgI zt23 48 rfl zo23 zzf2_35 X kN (by decide) (by decide) rfl (fun (x : Int32) _ (x0 : ((z_bl q : Nat) : Int) ≤ x.toInt) (x1 : x.toInt ≤ ((z_bl q : Nat) : Int)) => ?_)
    refine z_xJ zt23 49 rfl rfl (fun (h1 : x.toInt ≤ b.toInt) => ?_) (fun (h1 : b.toInt < x.toInt) => ?_)
    · exact hT many b M X m0 (by omega)
    refine z_xP zt23 50 127 [some (.ref N), some (.int p1), some (.int p2), some (.int p3), some (.int p4), some (.ref kp), some (.int many), some (.int b)] [.ref N] rfl rfl ?_
    refine z_xgR (κ := z_al 109 (z_bl q)) zt23 51 rfl zo23 zzf2_44 X kN (by decide) (by decide) rfl (fun (a9 : Nat) _ k9 => ?_)
    have k9 : T[a9]? = some (.inr (109, 1, z_bl q, 0, 0)) := k9
    refine z_xP zt23 52 136 [some (.ref N), some (.int p1), some (.int p2), some (.int p3), some (.int p4), some (.ref kp), some (.int many), some (.int b)] [.int b, .int 0, .ref N, .int b, .ref a9] rfl rfl ?_
    refine z_xcV (vs := [.ref N, .int 0, .int b]) (r := [.int b, .ref a9]) (L2 := [some (.ref N), some (.int 0), some (.int b), none, none, none]) zt23 53 rfl zo23 zzcV2_50 (Or.inl rfl) rfl X kN rfl rfl rfl (Nat.le_of_ble_eq_true rfl) zzm24 (Nat.le_of_ble_eq_true rfl) rfl ?_
    refine zUC24 X.1 kN ⟨by omega, by omega⟩ (by omega) (fun y M1 X1 => ?_)
    show z_ev (d + 1) 23 139 [some (.ref N), some (.int p1), some (.int p2), some (.int p3), some (.int p4), some (.ref kp), some (.int many), some (.int b)] [.long y, .int b, .ref a9] M1 _
    have X2 := X.go X1 (z_sb (by decide))
    refine z_xls zt23 54 rfl X2 k9 (by decide) (X.1.g4 k9 (by decide)) b0 (by omega) (by decide) (fun M2 X3 _ => ?_)
    refine z_xP zt23 55 143 [some (.ref N), some (.int p1), some (.int p2), some (.int p3), some (.int p4), some (.ref kp), some (.int many), some (.int b)] [.ref N, .int many] rfl rfl ?_
    refine z_xgR (κ := z_al 109 (z_bl q)) zt23 56 rfl zo23 zzf2_44 X3 kN (by decide) (by decide) rfl (fun (a8 : Nat) _ k8 => ?_)
    have k8 : T[a8]? = some (.inr (109, 1, z_bl q, 0, 0)) := k8
    refine z_xP zt23 57 148 [some (.ref N), some (.int p1), some (.int p2), some (.int p3), some (.int p4), some (.ref kp), some (.int many), some (.int b)] [.int b, .ref a8, .int many] rfl rfl ?_
    refine z_xll zt23 58 rfl X3 k8 (by decide) b0 (by omega) (fun y2 => ?_)
    refine z_xcS (vs := [.long y2]) (r := [.int many]) (L2 := [some (.long y2), none]) zt23 59 rfl zo23 zzcS2_54 (Or.inl rfl) (Nat.le_of_ble_eq_true rfl) rfl rfl (Nat.le_of_ble_eq_true rfl) zzm25 (Nat.le_of_ble_eq_true rfl) rfl ?_
    refine zU25 (fun c c0 c1 => ?_)
    show z_ev (d + 1) 23 152 [some (.ref N), some (.int p1), some (.int p2), some (.int p3), some (.int p4), some (.ref kp), some (.int many), some (.int b)] [.int c, .int many] M2 _
    refine z_xI zt23 60 rfl rfl (fun (m2 : Int32) (hm : m2.toInt = many.toInt + c.toInt) => ?_) (z_pAdd rfl rfl (by omega) (by omega))
    refine z_xP zt23 61 155 [some (.ref N), some (.int p1), some (.int p2), some (.int p3), some (.int p4), some (.ref kp), some (.int m2), some (.int b)] [] rfl rfl ?_
    have q1 : (1 : Int32).toInt = 1 := rfl
    refine z_xN (x := b) (P := fun b2 => b2.toInt = b.toInt + 1) zt23 62 rfl rfl (fun b2 hb2 => ?_) (z_pAdd rfl rfl (by omega) (by omega))
    show z_ev (d + 1) 23 158 [some (.ref N), some (.int p1), some (.int p2), some (.int p3), some (.int p4), some (.ref kp), some (.int m2), some (.int b2)] [] M2 K
    refine z_xP zt23 63 117 [some (.ref N), some (.int p1), some (.int p2), some (.int p3), some (.int p4), some (.ref kp), some (.int m2), some (.int b2)] [] rfl rfl ?_
    exact ih b2 m2 M2 X3 (by omega) (by omega) (by omega) (by omega) (by omega)
