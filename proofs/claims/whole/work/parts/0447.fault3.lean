theorem sumF_one {f g : Int → Int} {b s : Int} : ∀ n : Nat, (∀ i : Int, 0 ≤ i → i < n → i ≠ s → f (b + i) = g (b + i)) → 0 ≤ s → sumF f b n = sumF g b n + (if s < n then f (b + s) - g (b + s) else 0) := by
  intro n
  induction n with
  | zero =>
    intro _ hs
    rw [if_neg (by omega)]
    rfl
  | succ n ih =>
    intro h hs
    rw [sumF_succ, sumF_succ, ih (fun i p q => h i p (by omega)) hs]
    by_cases e : (n : Int) = s
    · rw [if_neg (by omega), if_pos (by omega), ← e]
      omega
    · rw [h n (by omega) (by omega) e]
      by_cases e2 : s < n
      · rw [if_pos e2, if_pos (by omega)]
        omega
      · rw [if_neg e2, if_neg (by omega)]
        omega
theorem MF_out (r : MM) (x hr k s : Int) (s0 : 0 ≤ s) (s1 : s < 48) : MF r x hr 1 k (s + 1) = MF r x hr 1 k s + (mfV r x hr 0 0 0 s - mfV r x hr 1 k 0 s) := by
  unfold MF
  rw [sumF_one (f := fun j => mfV r x hr 1 k (s + 1) j) (g := fun j => mfV r x hr 1 k s j) (s := s) 48 (fun i p q e => ?_) s0, if_pos (by omega), Int.zero_add]
  · have e1 : mfV r x hr 1 k (s + 1) s = mfV r x hr 0 0 0 s := by
      unfold mfV dueV
      rw [if_pos (show (1 : Int) = 1 from rfl), if_neg (show ¬ s + 1 ≤ s by omega), if_neg (show ¬ (0 : Int) = 1 by decide), if_neg (show ¬ (0 : Int) = 2 by decide), if_neg (show ¬ (0 : Int) = 3 by decide), if_neg (show ¬ (0 : Int) = 4 by decide)]
    have e2 : mfV r x hr 1 k s s = mfV r x hr 1 k 0 s := by
      unfold mfV dueV
      rw [if_pos (show (1 : Int) = 1 from rfl), if_pos (show (1 : Int) = 1 from rfl), if_pos (show s ≤ s by omega), if_pos s0]
    show _ + (mfV r x hr 1 k (s + 1) s - mfV r x hr 1 k s s) = _
    rw [e1, e2]
  · show mfV r x hr 1 k (s + 1) (0 + i) = mfV r x hr 1 k s (0 + i)
    rw [Int.zero_add]
    unfold mfV dueV
    rw [if_pos (show (1 : Int) = 1 from rfl), if_pos (show (1 : Int) = 1 from rfl)]
    by_cases z : s ≤ i
    · rw [if_pos (show s + 1 ≤ i by omega), if_pos z]
    · rw [if_neg (show ¬ s + 1 ≤ i by omega), if_neg z]
theorem MF_deaf0 (r : MM) (x hr s : Int) : MF r x hr 4 s (s - 1) = MF r x hr 0 0 0 := by
  unfold MF
  apply sumF_congr
  intro i p q
  show mfV r x hr 4 s (s - 1) (0 + i) = mfV r x hr 0 0 0 (0 + i)
  unfold mfV dueV
  rw [if_neg (show ¬ (4 : Int) = 1 by decide), if_neg (show ¬ (4 : Int) = 2 by decide), if_neg (show ¬ (4 : Int) = 3 by decide), if_pos rfl, if_neg (show ¬ (s ≤ 0 + i ∧ 0 + i ≤ s - 1) by omega), if_neg (show ¬ (0 : Int) = 1 by decide), if_neg (show ¬ (0 : Int) = 2 by decide), if_neg (show ¬ (0 : Int) = 3 by decide), if_neg (show ¬ (0 : Int) = 4 by decide)]
theorem MF_deaf (r : MM) (x hr s e : Int) (e0 : 0 ≤ e) (e1 : e < 48) (hse : s ≤ e) : MF r x hr 4 s e = MF r x hr 4 s (e - 1) + ((if hv r x e < 0 then 0 else if hv r x e = 0 then 0 else 1) - mfV r x hr 0 0 0 e) := by
  unfold MF
  rw [sumF_one (f := fun j => mfV r x hr 4 s e j) (g := fun j => mfV r x hr 4 s (e - 1) j) (s := e) 48 (fun i p q ne => ?_) e0, if_pos (by omega), Int.zero_add]
  · have k1 : mfV r x hr 4 s e e = (if hv r x e < 0 then 0 else if hv r x e = 0 then 0 else 1) := by
      unfold mfV dueV
      rw [if_neg (show ¬ (4 : Int) = 1 by decide), if_neg (show ¬ (4 : Int) = 2 by decide), if_neg (show ¬ (4 : Int) = 3 by decide), if_pos rfl, if_pos (show s ≤ e ∧ e ≤ e by omega)]
    have k2 : mfV r x hr 4 s (e - 1) e = mfV r x hr 0 0 0 e := by
      unfold mfV dueV
      rw [if_neg (show ¬ (4 : Int) = 1 by decide), if_neg (show ¬ (4 : Int) = 2 by decide), if_neg (show ¬ (4 : Int) = 3 by decide), if_pos rfl, if_neg (show ¬ (s ≤ e ∧ e ≤ e - 1) by omega), if_neg (show ¬ (0 : Int) = 1 by decide), if_neg (show ¬ (0 : Int) = 2 by decide), if_neg (show ¬ (0 : Int) = 3 by decide), if_neg (show ¬ (0 : Int) = 4 by decide)]
    show _ + (mfV r x hr 4 s e e - mfV r x hr 4 s (e - 1) e) = _
    rw [k1, k2]
  · show mfV r x hr 4 s e (0 + i) = mfV r x hr 4 s (e - 1) (0 + i)
    unfold mfV dueV
    rw [if_neg (show ¬ (4 : Int) = 1 by decide), if_neg (show ¬ (4 : Int) = 2 by decide), if_neg (show ¬ (4 : Int) = 3 by decide), if_pos rfl, if_neg (show ¬ (4 : Int) = 1 by decide), if_neg (show ¬ (4 : Int) = 2 by decide), if_neg (show ¬ (4 : Int) = 3 by decide), if_pos rfl]
    by_cases z : s ≤ 0 + i ∧ 0 + i ≤ e
    · rw [if_pos z, if_pos (show s ≤ 0 + i ∧ 0 + i ≤ e - 1 by omega)]
    · rw [if_neg z, if_neg (show ¬ (s ≤ 0 + i ∧ 0 + i ≤ e - 1) by omega)]
def m4 (r : MM) (x i d : Int) : Int := if hv r x i < 0 then 0 else if hv r x i = d then 0 else 1
def atH (r : MM) (x hr g d : Int) : Int := m4 r x ((g - hr) % 12) d + m4 r x ((g - hr) % 12 + 12) d + m4 r x ((g - hr) % 12 + 24) d + m4 r x ((g - hr) % 12 + 36) d
theorem MF_notch (r : MM) (x hr g v : Int) (g1 : 1 ≤ g) (g2 : g ≤ 12) : MF r x hr 2 g v = MF r x hr 0 0 0 - atH r x hr g g + atH r x hr g v := by
  have q0 : ∀ b : Int, b % 12 = 0 → sumF (fun j => mfV r x hr 2 g v j) b 12 = sumF (fun j => mfV r x hr 0 0 0 j) b 12 + (m4 r x (b + (g - hr) % 12) v - m4 r x (b + (g - hr) % 12) g) := by
    intro b hb
    rw [sumF_one (f := fun j => mfV r x hr 2 g v j) (g := fun j => mfV r x hr 0 0 0 j) (b := b) (s := (g - hr) % 12) 12 (fun i p q ne => ?_) (by omega), if_pos (by omega)]
    · have hh : hrV hr (b + (g - hr) % 12) = g := by
        unfold hrV
        omega
      have k1 : mfV r x hr 2 g v (b + (g - hr) % 12) = m4 r x (b + (g - hr) % 12) v := by
        unfold mfV dueV m4
        rw [hh, if_neg (show ¬ (2 : Int) = 1 by decide), if_pos rfl, if_pos rfl]
      have k2 : mfV r x hr 0 0 0 (b + (g - hr) % 12) = m4 r x (b + (g - hr) % 12) g := by
        unfold mfV dueV m4
        rw [hh, if_neg (show ¬ (0 : Int) = 1 by decide), if_neg (show ¬ (0 : Int) = 2 by decide), if_neg (show ¬ (0 : Int) = 3 by decide), if_neg (show ¬ (0 : Int) = 4 by decide)]
      show _ + (mfV r x hr 2 g v (b + (g - hr) % 12) - mfV r x hr 0 0 0 (b + (g - hr) % 12)) = _
      rw [k1, k2]
    · have hh : hrV hr (b + i) ≠ g := by
        unfold hrV
        omega
      show mfV r x hr 2 g v (b + i) = mfV r x hr 0 0 0 (b + i)
      unfold mfV dueV
      rw [if_neg (show ¬ (2 : Int) = 1 by decide), if_pos rfl, if_neg hh, if_neg (show ¬ (0 : Int) = 1 by decide), if_neg (show ¬ (0 : Int) = 2 by decide), if_neg (show ¬ (0 : Int) = 3 by decide), if_neg (show ¬ (0 : Int) = 4 by decide)]
  have sp : ∀ f : Int → Int, sumF f 0 48 = sumF f 0 12 + sumF f 12 12 + sumF f 24 12 + sumF f 36 12 := by
    intro f
    have a1 := sumF_split f 0 12 36
    have a2 := sumF_split f 12 12 24
    have a3 := sumF_split f 24 12 12
    have b1 : (0 : Int) + ((12 : Nat) : Int) = 12 := rfl
    have b2 : (12 : Int) + ((12 : Nat) : Int) = 24 := rfl
    have b3 : (24 : Int) + ((12 : Nat) : Int) = 36 := rfl
    rw [b1] at a1
    rw [b2] at a2
    rw [b3] at a3
    rw [show (48 : Nat) = 12 + 36 from rfl, a1, show (36 : Nat) = 12 + 24 from rfl, a2, show (24 : Nat) = 12 + 12 from rfl, a3]
    omega
  unfold MF atH
  rw [sp, sp, q0 0 rfl, q0 12 rfl, q0 24 rfl, q0 36 rfl, Int.zero_add, Int.add_comm 12, Int.add_comm 24, Int.add_comm 36]
  omega
section
variable {bd bs bw : Int} {G : GG} {r0 : MM} {x hr : Int}
theorem none_ok {c : MM} {Q : Int → MM → Prop} (hR0 : Rel bd bs bw G c r0) (hr1 : 1 ≤ hr) (hr2 : hr ≤ 12) (h6 : c 6 1 0 = hr) (h16 : ∀ j : Int, 0 ≤ j → j < 48 → c 16 0 j = hv r0 x j) {j : Int} (j0 : 0 ≤ j) (j1 : j < 48) (h : Q (mfV r0 x hr 0 0 0 j) c) : wpX1_misfitOfNone G j c Q := by
  unfold wpX1_misfitOfNone
  rw [h6]
  have d := dueV_rng (hr := hr) (i := j) (s := 0) (a := 0) (b := 0) (Or.inl rfl)
  exact dueC_ok hr1 hr2 j0 j1 (by decide) (by decide) (by decide) (Or.inl rfl) (misfit_ok hR0 j0 j1 (by omega) (h16 j j0 j1) h)
theorem atHour_ok {c : MM} {Q : Int → MM → Prop} (hR0 : Rel bd bs bw G c r0) (hr1 : 1 ≤ hr) (hr2 : hr ≤ 12) (h6 : c 6 1 0 = hr) (h16 : ∀ j : Int, 0 ≤ j → j < 48 → c 16 0 j = hv r0 x j) {g d : Int} (g1 : 1 ≤ g) (g2 : g ≤ 12) (d0 : 0 ≤ d) (d1 : d ≤ 24) (h : Q (atH r0 x hr g d) c) : wpX1_misfitsAtHour G g d c Q := by
  unfold wpX1_misfitsAtHour
  rw [h6]
  refine floorMod_ok (by omega) (by omega) (by omega) ?_
  unfold atH at h
  have i0 : 0 ≤ (g - hr) % 12 := by omega
  have i1 : (g - hr) % 12 < 12 := by omega
  generalize (g - hr) % 12 = i at *
  have st : ∀ (f : Nat) (acc j : Int), 0 ≤ j → j < 48 → wpX1_misfitsAtHour_L15 G Q f d (acc + m4 r0 x j d) (j + 12) c → wpX1_misfitsAtHour_L15 G Q (f + 1) d acc j c := by
    intro f acc j j0 j1 k
    exact ⟨by omega, ite_n (by omega) (misfit_ok hR0 j0 j1 (by omega) (h16 j j0 j1) k)⟩
  refine ⟨5, st 4 0 i i0 (by omega) (st 3 _ _ (by omega) (by omega) (st 2 _ _ (by omega) (by omega) (st 1 _ _ (by omega) (by omega) ?_)))⟩
  refine ⟨by omega, ite_p (by omega) ?_⟩
  rw [Int.zero_add, show i + 12 + 12 = i + 24 by omega, show i + 24 + 12 = i + 36 by omega]
  exact h
theorem SR.hR0 {c r : MM} (hS : SR bd bs bw G r0 x hr c r) : c 6 1 0 = hr ∧ (∀ j : Int, 0 ≤ j → j < 48 → c 16 0 j = hv r0 x j) := ⟨hS.1.2.1, hS.1.2.2.1⟩
theorem hv_same {r : MM} (e7 : r 7 0 = r0 7 0) (e8 : r 8 0 = r0 8 0) (x j : Int) : hv r x j = hv r0 x j := by
  unfold hv
  rw [e7, e8]
theorem mf_same {r : MM} (e7 : r 7 0 = r0 7 0) (e8 : r 8 0 = r0 8 0) : mfV r x hr = mfV r0 x hr := by
  funext s a b j
  unfold mfV
  rw [hv_same e7 e8]
theorem MF_same {r : MM} (e7 : r 7 0 = r0 7 0) (e8 : r 8 0 = r0 8 0) (s a b : Int) : MF r x hr s a b = MF r0 x hr s a b := by
  unfold MF
  rw [mf_same e7 e8]
end
