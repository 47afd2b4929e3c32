/-! stores that leave all other cells -/
theorem z_ke.ne {T0 : List zK} {a : Nat} {M M1 : zH} (h : ∀ b, b ≠ a → M1[b]? = M[b]?) (hn : T0[a]? = none) : z_ke T0 [] M M1 := by
  have hb : ∀ (b : Nat) (κ : zK), T0[b]? = some κ → M1[b]? = M[b]? := fun b κ hk => h b (fun e => by rw [e, hn] at hk; cases hk)
  exact ⟨fun b ci q t m J k hk _ => by unfold z_F; rw [hb b _ hk], fun b r x hk _ => hb b _ hk⟩
section ZN1
variable {d j pc : Nat} {segs : List (List (Nat × Instr × Nat))} {L : zL} {r : zS} {M M0 : zH} {T : List zK} {rs : List Nat} {K : Option Value → zH → Prop} {a b : Nat}
theorem z_xlsn {x : Int32} {v : Int64} {ρ len : Nat} {lo hi : Int} (ht : z_dcs j segs = true) (n : Nat) (hk : segs[n]? = some [(pc, .lastore, 1)]) (hX : z_X T rs M0 M) (ha : T[a]? = some (.inr (ρ, 1, len, lo, hi))) (hρ : ρ ≠ 99) (ha4 : 4 ≤ a) (h0 : 0 ≤ x.toInt) (h1 : x.toInt < len) (hr : ρ ∈ rs) (kk : ∀ M1, z_X T rs M0 M1 → z_ke T [ρ] M M1 → z_Lg M1 a = z_updL (z_Lg M a) x.toNatClampNeg v → (∀ b, b ≠ a → M1[b]? = M[b]?) → z_ev d j (pc + 1) L r M1 K) : z_ev d j pc L (.long v :: .int x :: .ref a :: r) M K := by
  obtain ⟨f, e1⟩ := hX.1.al ha hρ
  have hkp := z_kpA (z := (1, len, .inr (.inl (z_updL f x.toNatClampNeg v)))) ha e1
  refine z_elas (z_dc1 ht hk) e1 (z_inr h0 h1) ha4 (kk _ ⟨hX.1.set ha (Or.inr ⟨rfl, rfl, rfl⟩), hX.2.trans hkp fun z hz => by rw [List.mem_singleton.mp hz]; exact hr⟩ hkp ?_ (fun b hb => List.getElem?_set_ne (Ne.symm hb)))
  rw [z_Lgo e1]
  exact z_Lgo (z_gs1 e1)
theorem z_xisn {x v : Int32} {ρ len : Nat} {lo hi : Int} (ht : z_dcs j segs = true) (n : Nat) (hk : segs[n]? = some [(pc, .iastore, 1)]) (hX : z_X T rs M0 M) (ha : T[a]? = some (.inr (ρ, 0, len, lo, hi))) (hρ : ρ ≠ 99) (ha4 : 4 ≤ a) (h0 : 0 ≤ x.toInt) (h1 : x.toInt < len) (l1 : lo ≤ v.toInt) (l2 : v.toInt ≤ hi) (hr : ρ ∈ rs) (kk : ∀ M1, z_X T rs M0 M1 → z_ke T [ρ] M M1 → z_Ar M1 a = upd (z_Ar M a) x.toNatClampNeg v → (∀ b, b ≠ a → M1[b]? = M[b]?) → z_ev d j (pc + 1) L r M1 K) : z_ev d j pc L (.int v :: .int x :: .ref a :: r) M K := by
  obtain ⟨f, e1, e2, e3⟩ := hX.1.ai ha hρ
  have hkp := z_kpA (z := (0, len, .inl (upd f x.toNatClampNeg v))) ha e1
  refine z_eias (z_dc1 ht hk) e1 (z_inr h0 h1) ha4 (kk _ ⟨hX.1.set ha (Or.inr ⟨rfl, rfl, rfl, fun i hi2 => ?_⟩), hX.2.trans hkp fun z hz => by rw [List.mem_singleton.mp hz]; exact hr⟩ hkp ?_ (fun b hb => List.getElem?_set_ne (Ne.symm hb)))
  · by_cases hi3 : i = x.toNatClampNeg
    · subst hi3
      rw [show upd f x.toNatClampNeg v x.toNatClampNeg = v from by simp [upd]]
      exact ⟨l1, l2⟩
    · rw [show upd f x.toNatClampNeg v i = f i from by simp [upd, hi3]]
      exact e3 i hi2
  · rw [e2]
    unfold z_Ar
    rw [z_gs1 e1]
theorem z_xpfn {ci q t m J idx k : Nat} {cis : List Nat} {dc : String} {v : Value} (ht : z_dcs j segs = true) (n : Nat) (hk : segs[n]? = some [(pc, .putfield idx, 3)]) {oc : Nat} (ho : z_oc j = oc) (hq : z_fF oc idx = some ((k, cis), dc)) (hX : z_X T rs M0 M) (ha : T[a]? = some (.inl (ci, q, t, m, J))) (hc : ci ∈ cis) (hf : k < z_nf ci) (hov : z_okv T (z_fsp ci q t m J k) v) (hft : z_fit (z_fty ci k) v = true) (hr : (1000 + 100 * ci + k) ∈ rs) (hw : ((z_name j).name == "<init>") = true ∧ dc = z_cn (z_oc j)) (kk : ∀ M1, z_X T rs M0 M1 → z_ke T [1000 + 100 * ci + k] M M1 → z_F M1 a k = some v → (∀ b, b ≠ a → M1[b]? = M[b]?) → z_ev d j (pc + 3) L r M1 K) : z_ev d j pc L (v :: .ref a :: r) M K := by
  subst ho
  obtain ⟨fs, h1, h2, h3, h4, h5⟩ := hX.1.ob ha
  have hl : k < fs.length := by rw [h2]; exact hf
  have hkp := z_kpF (i := k) (v := v) ha h1
  refine z_epf (z_dc1 ht hk) hq h1 hc h5 hft hl (Or.inr hw) (kk _ ⟨hX.1.set ha ⟨rfl, ?_, h3, fun i w hi => ?_⟩, hX.2.trans hkp fun x hx => ?_⟩ hkp (z_Fown h1 hl) (fun b hb => List.getElem?_set_ne (Ne.symm hb)))
  · rw [List.length_set]; exact h2
  · rw [List.getElem?_set] at hi
    split at hi
    · rename_i hki
      subst hki
      cases hi
      exact hov
    · exact h4 i w hi
  · rw [List.mem_singleton.mp hx]; exact hr
end ZN1
