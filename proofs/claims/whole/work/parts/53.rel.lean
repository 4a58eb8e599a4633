/-! what never changes: kinds, lengths and references of a body, of a program -/
def z_BS (S : z_S) (b R : Nat) : Prop := z_kd S b = 0 ∧ (∀ j, j < 6 → z_rm S b j = some (b + 1 + j) ∧ z_kd S (b + 1 + j) = 20 ∧ z_ln S (b + 1 + j) = R + 1)
def z_bi (p k : Nat) : Nat := p + 11 + 7 * k
def z_pl (j : Nat) : Nat := if j = 0 ∨ j = 1 then 6 else if j = 2 then 96 else if j = 6 ∨ j = 7 then 48 else 24
def z_PS (S : z_S) (p : Nat) : Prop := z_kd S p = 7 ∧ (∀ j, j < 10 → z_rm S p j = some (p + 1 + j) ∧ z_kd S (p + 1 + j) = (if j = 9 then 24 else 20) ∧ z_ln S (p + 1 + j) = z_pl j) ∧ ∀ k, k < 24 → z_rm S (p + 10) k = some (z_bi p k) ∧ z_BS S (z_bi p k) 60
section
variable {S : z_S} {b R p : Nat}
theorem z_BS.k (h : z_BS S b R) : z_kd S b = 0 := h.1
theorem z_BS.r0 (h : z_BS S b R) : z_rm S b 0 = some (b + 1) := by rw [(h.2 0 (by omega)).1]
theorem z_BS.k1 (h : z_BS S b R) : z_kd S (b + 1) = 20 := by have := (h.2 0 (by omega)).2.1; rwa [show b + 1 + 0 = b + 1 by omega] at this
theorem z_BS.l1 (h : z_BS S b R) : z_ln S (b + 1) = R + 1 := by have := (h.2 0 (by omega)).2.2; rwa [show b + 1 + 0 = b + 1 by omega] at this
theorem z_BS.r1 (h : z_BS S b R) : z_rm S b 1 = some (b + 2) := by rw [(h.2 1 (by omega)).1]
theorem z_BS.k2 (h : z_BS S b R) : z_kd S (b + 2) = 20 := by have := (h.2 1 (by omega)).2.1; rwa [show b + 1 + 1 = b + 2 by omega] at this
theorem z_BS.l2 (h : z_BS S b R) : z_ln S (b + 2) = R + 1 := by have := (h.2 1 (by omega)).2.2; rwa [show b + 1 + 1 = b + 2 by omega] at this
theorem z_BS.r2 (h : z_BS S b R) : z_rm S b 2 = some (b + 3) := by rw [(h.2 2 (by omega)).1]
theorem z_BS.k3 (h : z_BS S b R) : z_kd S (b + 3) = 20 := by have := (h.2 2 (by omega)).2.1; rwa [show b + 1 + 2 = b + 3 by omega] at this
theorem z_BS.l3 (h : z_BS S b R) : z_ln S (b + 3) = R + 1 := by have := (h.2 2 (by omega)).2.2; rwa [show b + 1 + 2 = b + 3 by omega] at this
theorem z_BS.r3 (h : z_BS S b R) : z_rm S b 3 = some (b + 4) := by rw [(h.2 3 (by omega)).1]
theorem z_BS.k4 (h : z_BS S b R) : z_kd S (b + 4) = 20 := by have := (h.2 3 (by omega)).2.1; rwa [show b + 1 + 3 = b + 4 by omega] at this
theorem z_BS.l4 (h : z_BS S b R) : z_ln S (b + 4) = R + 1 := by have := (h.2 3 (by omega)).2.2; rwa [show b + 1 + 3 = b + 4 by omega] at this
theorem z_BS.r4 (h : z_BS S b R) : z_rm S b 4 = some (b + 5) := by rw [(h.2 4 (by omega)).1]
theorem z_BS.k5 (h : z_BS S b R) : z_kd S (b + 5) = 20 := by have := (h.2 4 (by omega)).2.1; rwa [show b + 1 + 4 = b + 5 by omega] at this
theorem z_BS.l5 (h : z_BS S b R) : z_ln S (b + 5) = R + 1 := by have := (h.2 4 (by omega)).2.2; rwa [show b + 1 + 4 = b + 5 by omega] at this
theorem z_BS.r5 (h : z_BS S b R) : z_rm S b 5 = some (b + 6) := by rw [(h.2 5 (by omega)).1]
theorem z_BS.k6 (h : z_BS S b R) : z_kd S (b + 6) = 20 := by have := (h.2 5 (by omega)).2.1; rwa [show b + 1 + 5 = b + 6 by omega] at this
theorem z_BS.l6 (h : z_BS S b R) : z_ln S (b + 6) = R + 1 := by have := (h.2 5 (by omega)).2.2; rwa [show b + 1 + 5 = b + 6 by omega] at this
theorem z_PS.k (h : z_PS S p) : z_kd S p = 7 := h.1
theorem z_PS.r0 (h : z_PS S p) : z_rm S p 0 = some (p + 1) := by rw [(h.2.1 0 (by omega)).1]
theorem z_PS.k1 (h : z_PS S p) : z_kd S (p + 1) = 20 := by have := (h.2.1 0 (by omega)).2.1; rwa [show p + 1 + 0 = p + 1 by omega] at this
theorem z_PS.l1 (h : z_PS S p) : z_ln S (p + 1) = 6 := by have := (h.2.1 0 (by omega)).2.2; rwa [show p + 1 + 0 = p + 1 by omega] at this
theorem z_PS.r1 (h : z_PS S p) : z_rm S p 1 = some (p + 2) := by rw [(h.2.1 1 (by omega)).1]
theorem z_PS.k2 (h : z_PS S p) : z_kd S (p + 2) = 20 := by have := (h.2.1 1 (by omega)).2.1; rwa [show p + 1 + 1 = p + 2 by omega] at this
theorem z_PS.l2 (h : z_PS S p) : z_ln S (p + 2) = 6 := by have := (h.2.1 1 (by omega)).2.2; rwa [show p + 1 + 1 = p + 2 by omega] at this
theorem z_PS.r2 (h : z_PS S p) : z_rm S p 2 = some (p + 3) := by rw [(h.2.1 2 (by omega)).1]
theorem z_PS.k3 (h : z_PS S p) : z_kd S (p + 3) = 20 := by have := (h.2.1 2 (by omega)).2.1; rwa [show p + 1 + 2 = p + 3 by omega] at this
theorem z_PS.l3 (h : z_PS S p) : z_ln S (p + 3) = 96 := by have := (h.2.1 2 (by omega)).2.2; rwa [show p + 1 + 2 = p + 3 by omega] at this
theorem z_PS.r3 (h : z_PS S p) : z_rm S p 3 = some (p + 4) := by rw [(h.2.1 3 (by omega)).1]
theorem z_PS.k4 (h : z_PS S p) : z_kd S (p + 4) = 20 := by have := (h.2.1 3 (by omega)).2.1; rwa [show p + 1 + 3 = p + 4 by omega] at this
theorem z_PS.l4 (h : z_PS S p) : z_ln S (p + 4) = 24 := by have := (h.2.1 3 (by omega)).2.2; rwa [show p + 1 + 3 = p + 4 by omega] at this
theorem z_PS.r4 (h : z_PS S p) : z_rm S p 4 = some (p + 5) := by rw [(h.2.1 4 (by omega)).1]
theorem z_PS.k5 (h : z_PS S p) : z_kd S (p + 5) = 20 := by have := (h.2.1 4 (by omega)).2.1; rwa [show p + 1 + 4 = p + 5 by omega] at this
theorem z_PS.l5 (h : z_PS S p) : z_ln S (p + 5) = 24 := by have := (h.2.1 4 (by omega)).2.2; rwa [show p + 1 + 4 = p + 5 by omega] at this
theorem z_PS.r5 (h : z_PS S p) : z_rm S p 5 = some (p + 6) := by rw [(h.2.1 5 (by omega)).1]
theorem z_PS.k6 (h : z_PS S p) : z_kd S (p + 6) = 20 := by have := (h.2.1 5 (by omega)).2.1; rwa [show p + 1 + 5 = p + 6 by omega] at this
theorem z_PS.l6 (h : z_PS S p) : z_ln S (p + 6) = 24 := by have := (h.2.1 5 (by omega)).2.2; rwa [show p + 1 + 5 = p + 6 by omega] at this
theorem z_PS.r6 (h : z_PS S p) : z_rm S p 6 = some (p + 7) := by rw [(h.2.1 6 (by omega)).1]
theorem z_PS.k7 (h : z_PS S p) : z_kd S (p + 7) = 20 := by have := (h.2.1 6 (by omega)).2.1; rwa [show p + 1 + 6 = p + 7 by omega] at this
theorem z_PS.l7 (h : z_PS S p) : z_ln S (p + 7) = 48 := by have := (h.2.1 6 (by omega)).2.2; rwa [show p + 1 + 6 = p + 7 by omega] at this
theorem z_PS.r7 (h : z_PS S p) : z_rm S p 7 = some (p + 8) := by rw [(h.2.1 7 (by omega)).1]
theorem z_PS.k8 (h : z_PS S p) : z_kd S (p + 8) = 20 := by have := (h.2.1 7 (by omega)).2.1; rwa [show p + 1 + 7 = p + 8 by omega] at this
theorem z_PS.l8 (h : z_PS S p) : z_ln S (p + 8) = 48 := by have := (h.2.1 7 (by omega)).2.2; rwa [show p + 1 + 7 = p + 8 by omega] at this
theorem z_PS.r8 (h : z_PS S p) : z_rm S p 8 = some (p + 9) := by rw [(h.2.1 8 (by omega)).1]
theorem z_PS.k9 (h : z_PS S p) : z_kd S (p + 9) = 20 := by have := (h.2.1 8 (by omega)).2.1; rwa [show p + 1 + 8 = p + 9 by omega] at this
theorem z_PS.l9 (h : z_PS S p) : z_ln S (p + 9) = 24 := by have := (h.2.1 8 (by omega)).2.2; rwa [show p + 1 + 8 = p + 9 by omega] at this
theorem z_PS.r9 (h : z_PS S p) : z_rm S p 9 = some (p + 10) := by rw [(h.2.1 9 (by omega)).1]
theorem z_PS.k10 (h : z_PS S p) : z_kd S (p + 10) = 24 := by have := (h.2.1 9 (by omega)).2.1; rwa [show p + 1 + 9 = p + 10 by omega] at this
theorem z_PS.l10 (h : z_PS S p) : z_ln S (p + 10) = 24 := by have := (h.2.1 9 (by omega)).2.2; rwa [show p + 1 + 9 = p + 10 by omega] at this
theorem z_PS.e (h : z_PS S p) {k : Nat} (hk : k < 24) : z_rm S (p + 10) k = some (z_bi p k) := (h.2.2 k hk).1
theorem z_PS.B (h : z_PS S p) {k : Nat} (hk : k < 24) : z_BS S (z_bi p k) 60 := (h.2.2 k hk).2
theorem z_BS.g0 (h : z_BS S b R) {β : Type} {f : Nat → m_M β} {m : z_m} : m_B (m_gR 0 b 0) f (z_hp S m) = f (b + 1) (z_hp S m) := by rw [zB_gR h.k, h.r0]; rfl
theorem z_BS.g1 (h : z_BS S b R) {β : Type} {f : Nat → m_M β} {m : z_m} : m_B (m_gR 0 b 1) f (z_hp S m) = f (b + 2) (z_hp S m) := by rw [zB_gR h.k, h.r1]; rfl
theorem z_BS.g2 (h : z_BS S b R) {β : Type} {f : Nat → m_M β} {m : z_m} : m_B (m_gR 0 b 2) f (z_hp S m) = f (b + 3) (z_hp S m) := by rw [zB_gR h.k, h.r2]; rfl
theorem z_BS.g3 (h : z_BS S b R) {β : Type} {f : Nat → m_M β} {m : z_m} : m_B (m_gR 0 b 3) f (z_hp S m) = f (b + 4) (z_hp S m) := by rw [zB_gR h.k, h.r3]; rfl
theorem z_BS.g4 (h : z_BS S b R) {β : Type} {f : Nat → m_M β} {m : z_m} : m_B (m_gR 0 b 4) f (z_hp S m) = f (b + 5) (z_hp S m) := by rw [zB_gR h.k, h.r4]; rfl
theorem z_BS.g5 (h : z_BS S b R) {β : Type} {f : Nat → m_M β} {m : z_m} : m_B (m_gR 0 b 5) f (z_hp S m) = f (b + 6) (z_hp S m) := by rw [zB_gR h.k, h.r5]; rfl
theorem z_PS.g0 (h : z_PS S p) {β : Type} {f : Nat → m_M β} {m : z_m} : m_B (m_gR 7 p 0) f (z_hp S m) = f (p + 1) (z_hp S m) := by rw [zB_gR h.k, h.r0]; rfl
theorem z_PS.g1 (h : z_PS S p) {β : Type} {f : Nat → m_M β} {m : z_m} : m_B (m_gR 7 p 1) f (z_hp S m) = f (p + 2) (z_hp S m) := by rw [zB_gR h.k, h.r1]; rfl
theorem z_PS.g2 (h : z_PS S p) {β : Type} {f : Nat → m_M β} {m : z_m} : m_B (m_gR 7 p 2) f (z_hp S m) = f (p + 3) (z_hp S m) := by rw [zB_gR h.k, h.r2]; rfl
theorem z_PS.g3 (h : z_PS S p) {β : Type} {f : Nat → m_M β} {m : z_m} : m_B (m_gR 7 p 3) f (z_hp S m) = f (p + 4) (z_hp S m) := by rw [zB_gR h.k, h.r3]; rfl
theorem z_PS.g4 (h : z_PS S p) {β : Type} {f : Nat → m_M β} {m : z_m} : m_B (m_gR 7 p 4) f (z_hp S m) = f (p + 5) (z_hp S m) := by rw [zB_gR h.k, h.r4]; rfl
theorem z_PS.g5 (h : z_PS S p) {β : Type} {f : Nat → m_M β} {m : z_m} : m_B (m_gR 7 p 5) f (z_hp S m) = f (p + 6) (z_hp S m) := by rw [zB_gR h.k, h.r5]; rfl
theorem z_PS.g6 (h : z_PS S p) {β : Type} {f : Nat → m_M β} {m : z_m} : m_B (m_gR 7 p 6) f (z_hp S m) = f (p + 7) (z_hp S m) := by rw [zB_gR h.k, h.r6]; rfl
theorem z_PS.g7 (h : z_PS S p) {β : Type} {f : Nat → m_M β} {m : z_m} : m_B (m_gR 7 p 7) f (z_hp S m) = f (p + 8) (z_hp S m) := by rw [zB_gR h.k, h.r7]; rfl
theorem z_PS.g8 (h : z_PS S p) {β : Type} {f : Nat → m_M β} {m : z_m} : m_B (m_gR 7 p 8) f (z_hp S m) = f (p + 9) (z_hp S m) := by rw [zB_gR h.k, h.r8]; rfl
theorem z_PS.g9 (h : z_PS S p) {β : Type} {f : Nat → m_M β} {m : z_m} : m_B (m_gR 7 p 9) f (z_hp S m) = f (p + 10) (z_hp S m) := by rw [zB_gR h.k, h.r9]; rfl
theorem z_PS.gb (h : z_PS S p) {β : Type} {f : Nat → m_M β} {m : z_m} {k : Nat} (hk : k < 24) : m_B (m_lR (p + 10) (nI k)) f (z_hp S m) = f (z_bi p k) (z_hp S m) := by rw [zB_lR (Or.inr h.k10) (by rw [h.l10]; exact hk) (by rw [h.l10]; decide), h.e hk]; rfl
end
/-! what a body and a program hold -/
def z_cb (m : z_m) (b R : Nat) (l : List z_N) : Prop := m b 6 = nI R ∧ m b 7 = nI l.length ∧ l.length ≤ R ∧ R ≤ 256 ∧ ∀ i, i < l.length → m (b + 1) i = z_k l i ∧ m (b + 2) i = z_v l i ∧ m (b + 3) i = nI (z_p l i)
/-- the ends are known -/
def z_ce (m : z_m) (b : Nat) (l : List z_N) : Prop := ∀ i, i < l.length → m (b + 4) i = nI (z_en l i)
def z_ft (P : z_Pg) (c n : Nat) : Int32 := if z_fld P c n = 0 then -3 else z_fld P c n - 2
def z_cc (m : z_m) (p : Nat) (P : z_Pg) : Prop := m p 10 = nI (z_nc P) ∧ ∀ c, c < z_nc P → m (p + 1) c = z_par P c ∧ (∀ d, d < 32 → z_bit (m (p + 2) c) d = z_blw P c d) ∧ ∀ n, n < 16 → m (p + 3) (c * 16 + n) = z_ft P c n
def z_ch (m : z_m) (p : Nat) (P : z_Pg) (k : Nat) : Prop := m (p + 4) k = z_hd P k 1 ∧ m (p + 5) k = z_hd P k 2 ∧ m (p + 6) k = z_hd P k 3 ∧ m (p + 9) k = z_hd P k 8 ∧ (∀ j, j < 2 → m (p + 7) (k * 2 + j) = z_hd P k (4 + j)) ∧ (∀ j, j < z_cnt P k → m (p + 8) (k * 2 + j) = z_hd P k (6 + j))
def z_cm (m : z_m) (p : Nat) (P : z_Pg) : Prop := m p 11 = nI (z_nm P) ∧ (∀ k, k < 32 → z_bit (m p 12) k = (decide (k < z_nm P) && z_liv P k)) ∧ ∀ k, k < z_nm P → z_liv P k = true → z_ch m p P k
def z_cbs (m : z_m) (p : Nat) (P : z_Pg) : Prop := (∀ k, k < 24 → m (z_bi p k) 6 = nI 60) ∧ ∀ k, k < z_nm P → z_liv P k = true → z_cb m (z_bi p k) 60 (z_bd P k)
/-- the class's program p holds P -/
def z_cp (m : z_m) (p : Nat) (P : z_Pg) : Prop := z_cc m p P ∧ z_cm m p P ∧ z_cbs m p P
