def w_X0_init (x0 : Nat) (x1 : Option Nat) (x2 : Int32) (x3 : Int32) (x4 : Int32) (x5 : Option Nat) (S : PT) (post : PT → Prop) : Prop :=
  gK S x0 = 1 ∧ ∀ S2, S2 = sP S 100 x0 x1 → ∀ S4, S4 = sI S2 101 x0 x2 → ∀ S6, S6 = sI S4 102 x0 x3 → ∀ S8, S8 = sI S6 103 x0 x4 → ∀ S10, S10 = sP S8 104 x0 x5 → post S10
def w_X1_balanceOf_b85 (x0 : Nat) (x1 : Int32) (post : Int64 → PT → Prop) (S : PT) (v2 : Int64) : Prop :=
  post v2 S
def w_X1_balanceOf_b79 (x0 : Nat) (x1 : Int32) (post : Int64 → PT → Prop) (k5 : PT → Int64 → Int32 → Prop) (S : PT) (v2 : Int64) (v4 : Int32) : Prop :=
  k5 S v2 (v4 + 1)
def w_X1_balanceOf_b59 (x0 : Nat) (x1 : Int32) (post : Int64 → PT → Prop) (k5 : PT → Int64 → Int32 → Prop) (S : PT) (v2 : Int64) (v4 : Int32) (v5 : Int32) : Prop :=
  gK S x0 = 2 ∧ ∃ a2, (gP S 200 x0) = some a2 ∧ gK S a2 = 12 ∧ vp_in v4 (gN S a2) ∧ (¬ ((gA S a2 v4.toNatClampNeg) - (gA S a2 v4.toNatClampNeg) / 8 * 8) = x1 → w_X1_balanceOf_b79 x0 x1 post k5 S v2 v4) ∧ (((gA S a2 v4.toNatClampNeg) - (gA S a2 v4.toNatClampNeg) / 8 * 8) = x1 → w_X1_balanceOf_b79 x0 x1 post k5 S (v2 + v5.toInt64) v4)
def w_X1_balanceOf_l5 (x0 : Nat) (x1 : Int32) (post : Int64 → PT → Prop) : Nat → PT → Int64 → Int32 → Prop
  | 0 => fun _ _ _ => False
  | n + 1 => fun S v2 v4 =>
    gK S x0 = 2 ∧ ((gI S 201 x0) ≤ v4 → w_X1_balanceOf_b85 x0 x1 post S v2) ∧ (¬ (gI S 201 x0) ≤ v4 → ∃ a7, (gP S 200 x0) = some a7 ∧ gK S a7 = 12 ∧ ((nI (gN S a7)) ≤ v4 → w_X1_balanceOf_b85 x0 x1 post S v2) ∧ (¬ (nI (gN S a7)) ≤ v4 → vp_in v4 (gN S a7) ∧ vp_in v4 (gN S a7) ∧ (¬ (((gA S a7 v4.toNatClampNeg) / 8) - ((gA S a7 v4.toNatClampNeg) / 8) / 8 * 8) = x1 → w_X1_balanceOf_b59 x0 x1 post (w_X1_balanceOf_l5 x0 x1 post n) S v2 v4 ((gA S a7 v4.toNatClampNeg) / 64)) ∧ ((((gA S a7 v4.toNatClampNeg) / 8) - ((gA S a7 v4.toNatClampNeg) / 8) / 8 * 8) = x1 → w_X1_balanceOf_b59 x0 x1 post (w_X1_balanceOf_l5 x0 x1 post n) S (v2 - ((gA S a7 v4.toNatClampNeg) / 64).toInt64) v4 ((gA S a7 v4.toNatClampNeg) / 64))))
def w_X1_balanceOf (x0 : Nat) (x1 : Int32) (S : PT) (post : Int64 → PT → Prop) : Prop :=
  ∃ n, w_X1_balanceOf_l5 x0 x1 post n S 0 0
def w_X2_init (x0 : Nat) (S : PT) (post : PT → Prop) : Prop :=
  gK S x0 = 3 ∧ ∀ S2, S2 = sI S 301 x0 (-1) → post S2
def w_X2_latestAsDeepAs_l5 (x0 : Nat) (x1 : Int32) (post : Option Nat → PT → Prop) : Nat → PT → Option Nat → Prop
  | 0 => fun _ _ => False
  | n + 1 => fun S v2 =>
    (v2 = none → post none S) ∧ (∀ a1, v2 = some a1 → gK S a1 = 1 ∧ ∃ a4, (gP S 100 a1) = some a4 ∧ gK S a4 = 8 ∧ ((gI S 807 a4) < x1 → (w_X2_latestAsDeepAs_l5 x0 x1 post n) S (gP S 104 a1)) ∧ (¬ (gI S 807 a4) < x1 → post v2 S))
def w_X2_latestAsDeepAs (x0 : Nat) (x1 : Int32) (S : PT) (post : Option Nat → PT → Prop) : Prop :=
  gK S x0 = 3 ∧ ∃ n, w_X2_latestAsDeepAs_l5 x0 x1 post n S (gP S 303 x0)
def w_X3_init (x0 : Nat) (S : PT) (post : PT → Prop) : Prop :=
  post S
def w_X4_metreAt_b23 (x0 : Nat) (x1 : Int32) (post : Option Nat → PT → Prop) (S : PT) (s0 : Option Nat) : Prop :=
  post s0 S
def w_X4_metreAt_b22 (x0 : Nat) (x1 : Int32) (post : Option Nat → PT → Prop) (S : PT) : Prop :=
  w_X4_metreAt_b23 x0 x1 post S none
def w_X4_metreAt (x0 : Nat) (x1 : Int32) (S : PT) (post : Option Nat → PT → Prop) : Prop :=
  (x1 < 0 → w_X4_metreAt_b22 x0 x1 post S) ∧ (¬ x1 < 0 → gK S x0 = 5 ∧ ∃ a2, (gP S 504 x0) = some a2 ∧ gK S a2 = 15 ∧ ((nI (gN S a2)) ≤ x1 → w_X4_metreAt_b22 x0 x1 post S) ∧ (¬ (nI (gN S a2)) ≤ x1 → vp_in x1 (gN S a2) ∧ w_X4_metreAt_b23 x0 x1 post S (gR S a2 ((x1).toNatClampNeg))))
def w_X4_hasOpenMetre_b32 (x0 : Nat) (post : Int32 → PT → Prop) (k2 : PT → Int32 → Prop) (S : PT) (v1 : Int32) : Prop :=
  k2 S (v1 + 1)
def w_X4_hasOpenMetre_l2 (x0 : Nat) (post : Int32 → PT → Prop) : Nat → PT → Int32 → Prop
  | 0 => fun _ _ => False
  | n + 1 => fun S v1 =>
    gK S x0 = 5 ∧ ∃ a2, (gP S 504 x0) = some a2 ∧ gK S a2 = 15 ∧ ((nI (gN S a2)) ≤ v1 → post 0 S) ∧ (¬ (nI (gN S a2)) ≤ v1 → vp_in v1 (gN S a2) ∧ ((gR S a2 ((v1).toNatClampNeg)) = none → w_X4_hasOpenMetre_b32 x0 post (w_X4_hasOpenMetre_l2 x0 post n) S v1) ∧ (∀ a6, (gR S a2 ((v1).toNatClampNeg)) = some a6 → gK S a6 = 3 ∧ ((gI S 301 a6) = (-1) → w_X4_hasOpenMetre_b32 x0 post (w_X4_hasOpenMetre_l2 x0 post n) S v1) ∧ (¬ (gI S 301 a6) = (-1) → post 1 S)))
def w_X4_hasOpenMetre (x0 : Nat) (S : PT) (post : Int32 → PT → Prop) : Prop :=
  ∃ n, w_X4_hasOpenMetre_l2 x0 post n S 0
def w_X8_overlap_b15 (x0 : Int32) (x1 : Int32) (x2 : Int32) (x3 : Int32) (post : Int32 → PT → Prop) (S : PT) (s0 : Int32) : Prop :=
  bo s0 ∧ post s0 S
def w_X8_overlap_b14 (x0 : Int32) (x1 : Int32) (x2 : Int32) (x3 : Int32) (post : Int32 → PT → Prop) (S : PT) : Prop :=
  w_X8_overlap_b15 x0 x1 x2 x3 post S 0
def w_X8_overlap (x0 : Int32) (x1 : Int32) (x2 : Int32) (x3 : Int32) (S : PT) (post : Int32 → PT → Prop) : Prop :=
  (x3 < x0 → w_X8_overlap_b14 x0 x1 x2 x3 post S) ∧ (¬ x3 < x0 → (x1 < x2 → w_X8_overlap_b14 x0 x1 x2 x3 post S) ∧ (¬ x1 < x2 → w_X8_overlap_b15 x0 x1 x2 x3 post S 1))
def w_X4_hasEmbargoIn_b29 (x0 : Nat) (x1 : Int32) (x2 : Int32) (post : Int32 → PT → Prop) (S : PT) (s0 : Int32) : Prop :=
  bo s0 ∧ post s0 S
def w_X4_hasEmbargoIn_b28 (x0 : Nat) (x1 : Int32) (x2 : Int32) (post : Int32 → PT → Prop) (S : PT) : Prop :=
  w_X4_hasEmbargoIn_b29 x0 x1 x2 post S 0
def w_X4_hasEmbargoIn (x0 : Nat) (x1 : Int32) (x2 : Int32) (S : PT) (post : Int32 → PT → Prop) : Prop :=
  gK S x0 = 5 ∧ ((gI S 505 x0) = (-1) → w_X4_hasEmbargoIn_b28 x0 x1 x2 post S) ∧ (¬ (gI S 505 x0) = (-1) → w_X8_overlap x1 x2 (gI S 505 x0) (gI S 506 x0) S (fun r4 S3 => (r4 = 0 → w_X4_hasEmbargoIn_b28 x0 x1 x2 post S3) ∧ (¬ r4 = 0 → w_X4_hasEmbargoIn_b29 x0 x1 x2 post S3 1)))
def w_X4_isNewIn_b32 (x0 : Nat) (x1 : Int32) (x2 : Int32) (post : Int32 → PT → Prop) (S : PT) (s0 : Int32) : Prop :=
  bo s0 ∧ post s0 S
def w_X4_isNewIn_b31 (x0 : Nat) (x1 : Int32) (x2 : Int32) (post : Int32 → PT → Prop) (S : PT) : Prop :=
  w_X4_isNewIn_b32 x0 x1 x2 post S 0
def w_X4_isNewIn (x0 : Nat) (x1 : Int32) (x2 : Int32) (S : PT) (post : Int32 → PT → Prop) : Prop :=
  gK S x0 = 5 ∧ ((gI S 507 x0) = (-1) → w_X4_isNewIn_b31 x0 x1 x2 post S) ∧ (¬ (gI S 507 x0) = (-1) → w_X8_overlap x1 x2 (gI S 507 x0) ((gI S 507 x0) + 99) S (fun r4 S3 => (r4 = 0 → w_X4_isNewIn_b31 x0 x1 x2 post S3) ∧ (¬ r4 = 0 → w_X4_isNewIn_b32 x0 x1 x2 post S3 1)))
def w_X4_weight (x0 : Nat) (S : PT) (post : Int32 → PT → Prop) : Prop :=
  gK S x0 = 5 ∧ post (4 - (gI S 501 x0)) S
def w_X4_noticeOf_b45 (x0 : Nat) (x1 : Int32) (post : Int32 → PT → Prop) (S : PT) (s0 : Int32) : Prop :=
  post s0 S
def w_X4_noticeOf_b29 (x0 : Nat) (x1 : Int32) (post : Int32 → PT → Prop) (S : PT) (s0 : Int32) : Prop :=
  gK S x0 = 5 ∧ (1 < (gI S 501 x0) → w_X4_noticeOf_b45 x0 x1 post S s0) ∧ (¬ 1 < (gI S 501 x0) → w_X4_noticeOf_b45 x0 x1 post S (2 * s0))
def w_X4_noticeOf (x0 : Nat) (x1 : Int32) (S : PT) (post : Int32 → PT → Prop) : Prop :=
  (¬ x1 = 0 → (¬ x1 = 1 → (¬ x1 = 2 → w_X4_noticeOf_b29 x0 x1 post S 0) ∧ (x1 = 2 → w_X4_noticeOf_b29 x0 x1 post S 3)) ∧ (x1 = 1 → w_X4_noticeOf_b29 x0 x1 post S 8)) ∧ (x1 = 0 → w_X4_noticeOf_b29 x0 x1 post S 20)
def w_X4_sendFlow_b36 (x0 : Nat) (post : PT → Prop) (S : PT) (v1 : Int32) : Prop :=
  gK S x0 = 5 ∧ ∀ S2, S2 = sI S 510 x0 ((gI S 510 x0) + ((gI S 502 x0) - v1)) → post S2
def w_X4_sendFlow (x0 : Nat) (S : PT) (post : PT → Prop) : Prop :=
  gK S x0 = 5 ∧ ((gI S 509 x0) = 0 → w_X4_sendFlow_b36 x0 post S 0) ∧ (¬ (gI S 509 x0) = 0 → ((gP S 503 x0) = none → w_X4_sendFlow_b36 x0 post S 0) ∧ (∀ a5, (gP S 503 x0) = some a5 → gK S a5 = 5 ∧ ∀ S8, S8 = sI S 510 a5 ((gI S 510 a5) + ((gI S 502 x0) / 2)) → w_X4_sendFlow_b36 x0 post S8 ((gI S 502 x0) / 2)))
def w_X4_letThrough_b24 (x0 : Nat) (post : PT → Prop) (S : PT) (v1 : Int32) : Prop :=
  gK S x0 = 5 ∧ ∀ S2, S2 = sI S 511 x0 (if (((gI S 511 x0) + (gI S 510 x0)) - v1) < 0 then 0 else (((gI S 511 x0) + (gI S 510 x0)) - v1)) → ∀ S4, S4 = sI S2 510 x0 0 → post S4
def w_X4_letThrough (x0 : Nat) (S : PT) (post : PT → Prop) : Prop :=
  gK S x0 = 5 ∧ ((gI S 509 x0) = 0 → w_X4_letThrough_b24 x0 post S (100 + (40 * (3 - (gI S 501 x0))))) ∧ (¬ (gI S 509 x0) = 0 → w_X4_letThrough_b24 x0 post S ((100 + (40 * (3 - (gI S 501 x0)))) / 2))
def w_X5_init (x0 : Nat) (x1 : Option Nat) (x2 : Int32) (x3 : Option Nat) (x4 : Int32) (S : PT) (post : PT → Prop) : Prop :=
  gK S x0 = 6 ∧ ∀ S2, S2 = sP S 600 x0 x1 → ∀ S4, S4 = sI S2 601 x0 x2 → ∀ S6, S6 = sP S4 602 x0 x3 → ∀ S8, S8 = sI S6 603 x0 x4 → post S8
def w_X5_isFillOf_b28 (x0 : Nat) (x1 : Option Nat) (x2 : Int32) (post : Int32 → PT → Prop) (S : PT) (s0 : Int32) : Prop :=
  bo s0 ∧ post s0 S
def w_X5_isFillOf_b27 (x0 : Nat) (x1 : Option Nat) (x2 : Int32) (post : Int32 → PT → Prop) (S : PT) : Prop :=
  w_X5_isFillOf_b28 x0 x1 x2 post S 0
def w_X5_isFillOf (x0 : Nat) (x1 : Option Nat) (x2 : Int32) (S : PT) (post : Int32 → PT → Prop) : Prop :=
  gK S x0 = 6 ∧ ((gP S 602 x0) = none → w_X5_isFillOf_b27 x0 x1 x2 post S) ∧ (∀ a3, (gP S 602 x0) = some a3 → (¬ (gP S 600 x0) = x1 → w_X5_isFillOf_b27 x0 x1 x2 post S) ∧ ((gP S 600 x0) = x1 → (¬ (gI S 601 x0) = x2 → w_X5_isFillOf_b27 x0 x1 x2 post S) ∧ ((gI S 601 x0) = x2 → w_X5_isFillOf_b28 x0 x1 x2 post S 1)))
def w_X5_isSurfaceOf_b20 (x0 : Nat) (x1 : Option Nat) (post : Int32 → PT → Prop) (S : PT) (s0 : Int32) : Prop :=
  bo s0 ∧ post s0 S
def w_X5_isSurfaceOf_b19 (x0 : Nat) (x1 : Option Nat) (post : Int32 → PT → Prop) (S : PT) : Prop :=
  w_X5_isSurfaceOf_b20 x0 x1 post S 0
def w_X5_isSurfaceOf (x0 : Nat) (x1 : Option Nat) (S : PT) (post : Int32 → PT → Prop) : Prop :=
  gK S x0 = 6 ∧ ((gP S 602 x0) = none → (¬ (gP S 600 x0) = x1 → w_X5_isSurfaceOf_b19 x0 x1 post S) ∧ ((gP S 600 x0) = x1 → w_X5_isSurfaceOf_b20 x0 x1 post S 1)) ∧ (∀ a3, (gP S 602 x0) = some a3 → w_X5_isSurfaceOf_b19 x0 x1 post S)
def w_X6_init (x0 : Nat) (x1 : Int32) (x2 : Option Nat) (x3 : Int32) (x4 : Int32) (x5 : Int32) (S : PT) (post : PT → Prop) : Prop :=
  gK S x0 = 7 ∧ ∀ S2, S2 = sI S 700 x0 x1 → ∀ S4, S4 = sP S2 701 x0 x2 → ∀ S6, S6 = sI S4 702 x0 x3 → ∀ S8, S8 = sI S6 703 x0 x4 → ∀ S10, S10 = sI S8 704 x0 x5 → post S10
def w_X6_putRecord (x0 : Nat) (x1 : Int32) (x2 : Int32) (x3 : Int32) (S : PT) (post : PT → Prop) : Prop :=
  gK S x0 = 7 ∧ ∀ S2, S2 = sI S 705 x0 1 → ∀ S4, S4 = sI S2 706 x0 (if (x1 - x3) < 0 then 0 else (x1 - x3)) → ∃ a6, (gP S4 701 x0) = some a6 ∧ gK S4 a6 = 5 ∧ ∃ a9, (gP S4 504 a6) = some a9 ∧ gK S4 a9 = 15 ∧ ∀ S12, S12 = sI S4 707 x0 (if ((nI (gN S4 a9)) - 1) < (x2 + x3) then ((nI (gN S4 a9)) - 1) else (x2 + x3)) → post S12
def w_X6_suspectMetres_b22 (x0 : Nat) (post : Int32 → PT → Prop) (S : PT) (s0 : Int32) : Prop :=
  post s0 S
def w_X6_suspectMetres (x0 : Nat) (S : PT) (post : Int32 → PT → Prop) : Prop :=
  gK S x0 = 7 ∧ ((gI S 705 x0) = 0 → w_X6_suspectMetres_b22 x0 post S 0) ∧ (¬ (gI S 705 x0) = 0 → w_X6_suspectMetres_b22 x0 post S (((gI S 707 x0) - (gI S 706 x0)) + 1))
def w_X6_liesAt_b29 (x0 : Nat) (x1 : Option Nat) (x2 : Int32) (post : Int32 → PT → Prop) (S : PT) (s0 : Int32) : Prop :=
  bo s0 ∧ post s0 S
def w_X6_liesAt_b28 (x0 : Nat) (x1 : Option Nat) (x2 : Int32) (post : Int32 → PT → Prop) (S : PT) : Prop :=
  w_X6_liesAt_b29 x0 x1 x2 post S 0
def w_X6_liesAt (x0 : Nat) (x1 : Option Nat) (x2 : Int32) (S : PT) (post : Int32 → PT → Prop) : Prop :=
  gK S x0 = 7 ∧ (¬ (gP S 701 x0) = x1 → w_X6_liesAt_b28 x0 x1 x2 post S) ∧ ((gP S 701 x0) = x1 → (x2 < (gI S 702 x0) → w_X6_liesAt_b28 x0 x1 x2 post S) ∧ (¬ x2 < (gI S 702 x0) → ((gI S 703 x0) < x2 → w_X6_liesAt_b28 x0 x1 x2 post S) ∧ (¬ (gI S 703 x0) < x2 → w_X6_liesAt_b29 x0 x1 x2 post S 1)))
def w_X6_liesInSureMetre_b35 (x0 : Nat) (post : Int32 → PT → Prop) (k5 : PT → Int32 → Prop) (S : PT) (v1 : Int32) : Prop :=
  k5 S (v1 + 1)
def w_X6_liesInSureMetre_l5 (x0 : Nat) (post : Int32 → PT → Prop) : Nat → PT → Int32 → Prop
  | 0 => fun _ _ => False
  | n + 1 => fun S v1 =>
    gK S x0 = 7 ∧ ((gI S 703 x0) < v1 → post 0 S) ∧ (¬ (gI S 703 x0) < v1 → ∃ a2, (gP S 701 x0) = some a2 ∧ gK S a2 = 5 ∧ w_X4_metreAt a2 v1 S (fun r6 S5 => (r6 = none → w_X6_liesInSureMetre_b35 x0 post (w_X6_liesInSureMetre_l5 x0 post n) S5 v1) ∧ (∀ a7, r6 = some a7 → gK S5 a7 = 3 ∧ ((gI S5 300 a7) = 0 → w_X6_liesInSureMetre_b35 x0 post (w_X6_liesInSureMetre_l5 x0 post n) S5 v1) ∧ (¬ (gI S5 300 a7) = 0 → post 1 S5))))
def w_X6_liesInSureMetre (x0 : Nat) (S : PT) (post : Int32 → PT → Prop) : Prop :=
  gK S x0 = 7 ∧ ∃ n, w_X6_liesInSureMetre_l5 x0 post n S (gI S 702 x0)
def w_X7_init_b43 (x0 : Nat) (x1 : Int32) (x2 : Int32) (x3 : Option Nat) (x4 : Int32) (x5 : Int32) (post : PT → Prop) (S : PT) (s0 : Option Nat) (s1 : Int32) : Prop :=
  ∃ a1, s0 = some a1 ∧ gK S a1 = 8 ∧ ∀ S4, S4 = sI S 810 a1 s1 → post S4
def w_X7_init (x0 : Nat) (x1 : Int32) (x2 : Int32) (x3 : Option Nat) (x4 : Int32) (x5 : Int32) (S : PT) (post : PT → Prop) : Prop :=
  gK S x0 = 8 ∧ ∀ S7, S7 = sI S 800 x0 x1 → ∀ S9, S9 = sI S7 801 x0 x2 → ∀ S11, S11 = sP S9 802 x0 x3 → ∀ S13, S13 = sI S11 803 x0 x4 → ∀ S15, S15 = sI S13 804 x0 x5 → (¬ x4 = 3 → w_X7_init_b43 x0 x1 x2 x3 x4 x5 post S15 (some x0) 0) ∧ (x4 = 3 → w_X7_init_b43 x0 x1 x2 x3 x4 x5 post S15 (some x0) 1)
def w_X7_placeAt (x0 : Nat) (x1 : Int32) (x2 : Int32) (x3 : Int32) (S : PT) (post : PT → Prop) : Prop :=
  gK S x0 = 8 ∧ ∀ S2, S2 = sI S 805 x0 x1 → ∀ S4, S4 = sI S2 806 x0 x2 → ∀ S6, S6 = sI S4 807 x0 x3 → post S6
def w_X7_planFor (x0 : Nat) (x1 : Int32) (x2 : Int32) (S : PT) (post : PT → Prop) : Prop :=
  gK S x0 = 8 ∧ ∀ S2, S2 = sI S 808 x0 x1 → ∀ S4, S4 = sI S2 809 x0 ((x1 + x2) - 1) → post S4
def w_X7_bit (x0 : Nat) (S : PT) (post : Int32 → PT → Prop) : Prop :=
  gK S x0 = 8 ∧ post (1 <<< ((gI S 800 x0) &&& 31)) S
def w_X7_agreesWith_b17 (x0 : Nat) (x1 : Option Nat) (post : Int32 → PT → Prop) (S : PT) (s0 : Int32) : Prop :=
  bo s0 ∧ post s0 S
def w_X7_agreesWith (x0 : Nat) (x1 : Option Nat) (S : PT) (post : Int32 → PT → Prop) : Prop :=
  gK S x0 = 8 ∧ ∃ a3, x1 = some a3 ∧ gK S a3 = 8 ∧ w_X7_bit a3 S (fun r7 S6 => (((gI S 814 x0) &&& r7) = 0 → w_X7_agreesWith_b17 x0 x1 post S6 0) ∧ (¬ ((gI S 814 x0) &&& r7) = 0 → w_X7_agreesWith_b17 x0 x1 post S6 1))
def w_X7_isStanding_b21 (x0 : Nat) (post : Int32 → PT → Prop) (S : PT) (s0 : Int32) : Prop :=
  bo s0 ∧ post s0 S
def w_X7_isStanding_b16 (x0 : Nat) (post : Int32 → PT → Prop) (S : PT) : Prop :=
  w_X7_isStanding_b21 x0 post S 1
def w_X7_isStanding (x0 : Nat) (S : PT) (post : Int32 → PT → Prop) : Prop :=
  gK S x0 = 8 ∧ ((gI S 810 x0) = 1 → w_X7_isStanding_b16 x0 post S) ∧ (¬ (gI S 810 x0) = 1 → (¬ (gI S 810 x0) = 3 → w_X7_isStanding_b21 x0 post S 0) ∧ ((gI S 810 x0) = 3 → w_X7_isStanding_b16 x0 post S))
def w_X7_isOver_b21 (x0 : Nat) (post : Int32 → PT → Prop) (S : PT) (s0 : Int32) : Prop :=
  bo s0 ∧ post s0 S
def w_X7_isOver_b16 (x0 : Nat) (post : Int32 → PT → Prop) (S : PT) : Prop :=
  w_X7_isOver_b21 x0 post S 1
def w_X7_isOver (x0 : Nat) (S : PT) (post : Int32 → PT → Prop) : Prop :=
  gK S x0 = 8 ∧ ((gI S 810 x0) = 2 → w_X7_isOver_b16 x0 post S) ∧ (¬ (gI S 810 x0) = 2 → (¬ (gI S 810 x0) = 4 → w_X7_isOver_b21 x0 post S 0) ∧ ((gI S 810 x0) = 4 → w_X7_isOver_b16 x0 post S))
def w_X7_hasCondition_b14 (x0 : Nat) (x1 : Int32) (post : Int32 → PT → Prop) (S : PT) (s0 : Int32) : Prop :=
  bo s0 ∧ post s0 S
def w_X7_hasCondition (x0 : Nat) (x1 : Int32) (S : PT) (post : Int32 → PT → Prop) : Prop :=
  gK S x0 = 8 ∧ (((gI S 811 x0) &&& x1) = 0 → w_X7_hasCondition_b14 x0 x1 post S 0) ∧ (¬ ((gI S 811 x0) &&& x1) = 0 → w_X7_hasCondition_b14 x0 x1 post S 1)
def w_X7_takesStreet_b27 (x0 : Nat) (post : Int32 → PT → Prop) (S : PT) (s0 : Int32) : Prop :=
  bo s0 ∧ post s0 S
def w_X7_takesStreet_b26 (x0 : Nat) (post : Int32 → PT → Prop) (S : PT) : Prop :=
  w_X7_takesStreet_b27 x0 post S 0
def w_X7_takesStreet (x0 : Nat) (S : PT) (post : Int32 → PT → Prop) : Prop :=
  gK S x0 = 8 ∧ (¬ (gI S 810 x0) = 3 → w_X7_takesStreet_b26 x0 post S) ∧ ((gI S 810 x0) = 3 → ((gI S 815 x0) ≤ 0 → w_X7_takesStreet_b26 x0 post S) ∧ (¬ (gI S 815 x0) ≤ 0 → (¬ (gI S 816 x0) = 0 → w_X7_takesStreet_b26 x0 post S) ∧ ((gI S 816 x0) = 0 → w_X7_takesStreet_b27 x0 post S 1)))
def w_X7_endOn_b23 (x0 : Nat) (x1 : Int32) (post : Int32 → PT → Prop) (S : PT) (s0 : Int32) : Prop :=
  post s0 S
def w_X7_endOn (x0 : Nat) (x1 : Int32) (S : PT) (post : Int32 → PT → Prop) : Prop :=
  gK S x0 = 8 ∧ (¬ (gI S 810 x0) = 3 → w_X7_endOn_b23 x0 x1 post S (gI S 809 x0)) ∧ ((gI S 810 x0) = 3 → w_X7_endOn_b23 x0 x1 post S (if (gI S 809 x0) < x1 then x1 else (gI S 809 x0)))
def w_X7_settledOn_b17 (x0 : Nat) (post : Int32 → PT → Prop) (S : PT) (s0 : Int32) (s1 : Int32) : Prop :=
  post (s0 + s1) S
def w_X7_settledOn (x0 : Nat) (S : PT) (post : Int32 → PT → Prop) : Prop :=
  gK S x0 = 8 ∧ (¬ (gI S 803 x0) = 2 → w_X7_settledOn_b17 x0 post S (gI S 804 x0) 5) ∧ ((gI S 803 x0) = 2 → w_X7_settledOn_b17 x0 post S (gI S 804 x0) 2)
def w_X7_permitCost_b39 (x0 : Nat) (post : Int32 → PT → Prop) (S : PT) (s0 : Int32) : Prop :=
  gK S x0 = 8 ∧ ∃ a2, (gP S 802 x0) = some a2 ∧ gK S a2 = 5 ∧ w_X4_weight a2 S (fun r6 S5 => post (s0 * r6) S5)
def w_X7_permitCost (x0 : Nat) (S : PT) (post : Int32 → PT → Prop) : Prop :=
  gK S x0 = 8 ∧ (¬ (gI S 803 x0) = 0 → (¬ (gI S 803 x0) = 1 → (¬ (gI S 803 x0) = 2 → w_X7_permitCost_b39 x0 post S 0) ∧ ((gI S 803 x0) = 2 → w_X7_permitCost_b39 x0 post S 20)) ∧ ((gI S 803 x0) = 1 → w_X7_permitCost_b39 x0 post S 40)) ∧ ((gI S 803 x0) = 0 → w_X7_permitCost_b39 x0 post S 60)
def w_X7_daysLiable_b18 (x0 : Nat) (post : Int32 → PT → Prop) (S : PT) (s0 : Int32) : Prop :=
  post s0 S
def w_X7_daysLiable (x0 : Nat) (S : PT) (post : Int32 → PT → Prop) : Prop :=
  gK S x0 = 8 ∧ ((gI S 807 x0) < 120 → w_X7_daysLiable_b18 x0 post S 200) ∧ (¬ (gI S 807 x0) < 120 → w_X7_daysLiable_b18 x0 post S 300)
def w_X7_ownMetreAt_b28 (x0 : Nat) (x1 : Int32) (post : Option Nat → PT → Prop) (S : PT) (s0 : Option Nat) : Prop :=
  post s0 S
def w_X7_ownMetreAt_b27 (x0 : Nat) (x1 : Int32) (post : Option Nat → PT → Prop) (S : PT) : Prop :=
  w_X7_ownMetreAt_b28 x0 x1 post S none
def w_X7_ownMetreAt (x0 : Nat) (x1 : Int32) (S : PT) (post : Option Nat → PT → Prop) : Prop :=
  gK S x0 = 8 ∧ (x1 < (gI S 805 x0) → w_X7_ownMetreAt_b27 x0 x1 post S) ∧ (¬ x1 < (gI S 805 x0) → ((gI S 806 x0) < x1 → w_X7_ownMetreAt_b27 x0 x1 post S) ∧ (¬ (gI S 806 x0) < x1 → ∃ a2, (gP S 802 x0) = some a2 ∧ gK S a2 = 5 ∧ w_X4_metreAt a2 x1 S (fun r6 S5 => w_X7_ownMetreAt_b28 x0 x1 post S5 r6)))
def w_X7_mayMeet_b33 (x0 : Option Nat) (x1 : Option Nat) (post : Int32 → PT → Prop) (S : PT) (s0 : Int32) : Prop :=
  bo s0 ∧ post s0 S
def w_X7_mayMeet_b32 (x0 : Option Nat) (x1 : Option Nat) (post : Int32 → PT → Prop) (S : PT) : Prop :=
  w_X7_mayMeet_b33 x0 x1 post S 0
def w_X7_mayMeet_b28 (x0 : Option Nat) (x1 : Option Nat) (post : Int32 → PT → Prop) (S : PT) : Prop :=
  w_X7_mayMeet_b33 x0 x1 post S 1
def w_X7_mayMeet_b14 (x0 : Option Nat) (x1 : Option Nat) (post : Int32 → PT → Prop) (S : PT) : Prop :=
  ∃ a2, x1 = some a2 ∧ gK S a2 = 8 ∧ w_X7_isStanding a2 S (fun r6 S5 => (r6 = 0 → w_X7_mayMeet_b32 x0 x1 post S5) ∧ (¬ r6 = 0 → ∃ a8, x0 = some a8 ∧ gK S5 a8 = 8 ∧ w_X7_isOver a8 S5 (fun r12 S11 => (¬ r12 = 0 → w_X7_mayMeet_b32 x0 x1 post S11) ∧ (r12 = 0 → w_X7_mayMeet_b28 x0 x1 post S11))))
def w_X7_mayMeet (x0 : Option Nat) (x1 : Option Nat) (S : PT) (post : Int32 → PT → Prop) : Prop :=
  ∃ a14, x0 = some a14 ∧ gK S a14 = 8 ∧ w_X7_isStanding a14 S (fun r18 S17 => (r18 = 0 → w_X7_mayMeet_b14 x0 x1 post S17) ∧ (¬ r18 = 0 → ∃ a20, x1 = some a20 ∧ gK S17 a20 = 8 ∧ w_X7_isOver a20 S17 (fun r24 S23 => (r24 = 0 → w_X7_mayMeet_b28 x0 x1 post S23) ∧ (¬ r24 = 0 → w_X7_mayMeet_b14 x0 x1 post S23))))
def w_X7_areNear_b47 (x0 : Option Nat) (x1 : Option Nat) (post : Int32 → PT → Prop) (S : PT) (s0 : Int32) : Prop :=
  bo s0 ∧ post s0 S
def w_X7_areNear_b81 (x0 : Option Nat) (x1 : Option Nat) (post : Int32 → PT → Prop) (S : PT) (s0 : Int32) : Prop :=
  bo s0 ∧ post s0 S
def w_X7_areNear_b76 (x0 : Option Nat) (x1 : Option Nat) (post : Int32 → PT → Prop) (S : PT) : Prop :=
  w_X7_areNear_b81 x0 x1 post S 1
def w_X7_areNear (x0 : Option Nat) (x1 : Option Nat) (S : PT) (post : Int32 → PT → Prop) : Prop :=
  ∃ a3, x0 = some a3 ∧ gK S a3 = 8 ∧ ∃ a6, x1 = some a6 ∧ gK S a6 = 8 ∧ (¬ (gP S 802 a3) = (gP S 802 a6) → ∃ a9, (gP S 802 a3) = some a9 ∧ gK S a9 = 5 ∧ ((gP S 503 a9) = (gP S 802 a6) → w_X7_areNear_b76 x0 x1 post S) ∧ (¬ (gP S 503 a9) = (gP S 802 a6) → ∃ a12, (gP S 802 a6) = some a12 ∧ gK S a12 = 5 ∧ (¬ (gP S 503 a12) = (gP S 802 a3) → w_X7_areNear_b81 x0 x1 post S 0) ∧ ((gP S 503 a12) = (gP S 802 a3) → w_X7_areNear_b76 x0 x1 post S))) ∧ ((gP S 802 a3) = (gP S 802 a6) → (3 ≤ (((if (gI S 805 a3) < (gI S 805 a6) then (gI S 805 a6) else (gI S 805 a3)) - (if (gI S 806 a6) < (gI S 806 a3) then (gI S 806 a6) else (gI S 806 a3))) - 1) → w_X7_areNear_b47 x0 x1 post S 0) ∧ (¬ 3 ≤ (((if (gI S 805 a3) < (gI S 805 a6) then (gI S 805 a6) else (gI S 805 a3)) - (if (gI S 806 a6) < (gI S 806 a3) then (gI S 806 a6) else (gI S 806 a3))) - 1) → w_X7_areNear_b47 x0 x1 post S 1))
def w_Jxa1e45_init_da8c8 (x0 : Nat) (S : PT) (post : PT → Prop) : Prop :=
  post S
def w_Jxc12de_init_da8c8 (x0 : Nat) (S : PT) (post : PT → Prop) : Prop :=
  w_Jxa1e45_init_da8c8 x0 S (fun S1 => gK S1 x0 = 11 ∧ ∀ S4, S4 = sI S1 1100 x0 0 → post S4)
def w_X8_streetAt_b23 (x0 : Nat) (x1 : Int32) (post : Option Nat → PT → Prop) (S : PT) (s0 : Option Nat) : Prop :=
  post s0 S
def w_X8_streetAt_b22 (x0 : Nat) (x1 : Int32) (post : Option Nat → PT → Prop) (S : PT) : Prop :=
  w_X8_streetAt_b23 x0 x1 post S none
def w_X8_streetAt (x0 : Nat) (x1 : Int32) (S : PT) (post : Option Nat → PT → Prop) : Prop :=
  (x1 < 0 → w_X8_streetAt_b22 x0 x1 post S) ∧ (¬ x1 < 0 → gK S x0 = 9 ∧ ∃ a2, (gP S 900 x0) = some a2 ∧ gK S a2 = 17 ∧ ((nI (gN S a2)) ≤ x1 → w_X8_streetAt_b22 x0 x1 post S) ∧ (¬ (nI (gN S a2)) ≤ x1 → vp_in x1 (gN S a2) ∧ w_X8_streetAt_b23 x0 x1 post S (gR S a2 ((x1).toNatClampNeg))))
def w_X8_today (x0 : Nat) (S : PT) (post : Int32 → PT → Prop) : Prop :=
  gK S x0 = 9 ∧ post ((gI S 909 x0) / 24) S
def w_Jx4a65c_size_8abf5 (x0 : Nat) (S : PT) (post : Int32 → PT → Prop) : Prop :=
  gK S x0 = 11 ∧ post (gI S 1102 x0) S
def w_J8_newLength_cabcc_b21 (x0 : Int32) (x1 : Int32) (x2 : Int32) (post : Int32 → PT → Prop) (S : PT) : Prop :=
  False
def w_J8_newLength_cabcc (x0 : Int32) (x1 : Int32) (x2 : Int32) (S : PT) (post : Int32 → PT → Prop) : Prop :=
  ((x0 + (if x1 < x2 then x2 else x1)) ≤ 0 → w_J8_newLength_cabcc_b21 x0 x1 x2 post S) ∧ (¬ (x0 + (if x1 < x2 then x2 else x1)) ≤ 0 → (2147483639 < (x0 + (if x1 < x2 then x2 else x1)) → w_J8_newLength_cabcc_b21 x0 x1 x2 post S) ∧ (¬ 2147483639 < (x0 + (if x1 < x2 then x2 else x1)) → post (x0 + (if x1 < x2 then x2 else x1)) S))
def w_X8_isPromoter_b14 (x0 : Int32) (post : Int32 → PT → Prop) (S : PT) (s0 : Int32) : Prop :=
  bo s0 ∧ post s0 S
def w_X8_isPromoter_b13 (x0 : Int32) (post : Int32 → PT → Prop) (S : PT) : Prop :=
  w_X8_isPromoter_b14 x0 post S 0
def w_X8_isPromoter (x0 : Int32) (S : PT) (post : Int32 → PT → Prop) : Prop :=
  (x0 < 0 → w_X8_isPromoter_b13 x0 post S) ∧ (¬ x0 < 0 → (5 ≤ x0 → w_X8_isPromoter_b13 x0 post S) ∧ (¬ 5 ≤ x0 → w_X8_isPromoter_b14 x0 post S 1))
def w_X8_thingAt_b23 (x0 : Nat) (x1 : Int32) (post : Option Nat → PT → Prop) (S : PT) (s0 : Option Nat) : Prop :=
  post s0 S
def w_X8_thingAt_b22 (x0 : Nat) (x1 : Int32) (post : Option Nat → PT → Prop) (S : PT) : Prop :=
  w_X8_thingAt_b23 x0 x1 post S none
def w_X8_thingAt (x0 : Nat) (x1 : Int32) (S : PT) (post : Option Nat → PT → Prop) : Prop :=
  (x1 < 0 → w_X8_thingAt_b22 x0 x1 post S) ∧ (¬ x1 < 0 → gK S x0 = 9 ∧ ∃ a2, (gP S 902 x0) = some a2 ∧ gK S a2 = 18 ∧ ((nI (gN S a2)) ≤ x1 → w_X8_thingAt_b22 x0 x1 post S) ∧ (¬ (nI (gN S a2)) ≤ x1 → vp_in x1 (gN S a2) ∧ w_X8_thingAt_b23 x0 x1 post S (gR S a2 ((x1).toNatClampNeg))))
def w_X8_worksAt_b23 (x0 : Nat) (x1 : Int32) (post : Option Nat → PT → Prop) (S : PT) (s0 : Option Nat) : Prop :=
  post s0 S
def w_X8_worksAt_b22 (x0 : Nat) (x1 : Int32) (post : Option Nat → PT → Prop) (S : PT) : Prop :=
  w_X8_worksAt_b23 x0 x1 post S none
def w_X8_worksAt (x0 : Nat) (x1 : Int32) (S : PT) (post : Option Nat → PT → Prop) : Prop :=
  (x1 < 0 → w_X8_worksAt_b22 x0 x1 post S) ∧ (¬ x1 < 0 → gK S x0 = 9 ∧ ∃ a2, (gP S 904 x0) = some a2 ∧ gK S a2 = 19 ∧ ((nI (gN S a2)) ≤ x1 → w_X8_worksAt_b22 x0 x1 post S) ∧ (¬ (nI (gN S a2)) ≤ x1 → vp_in x1 (gN S a2) ∧ w_X8_worksAt_b23 x0 x1 post S (gR S a2 ((x1).toNatClampNeg))))
def w_X8_firstMet_b103 (x0 : Nat) (x1 : Option Nat) (x2 : Int32) (x3 : Int32) (x4 : Int32) (post : Int32 → PT → Prop) (k3 : PT → Int32 → Prop) (S : PT) (v5 : Int32) : Prop :=
  k3 S (v5 + 1)
def w_X8_firstMet_b48 (x0 : Nat) (x1 : Option Nat) (x2 : Int32) (x3 : Int32) (x4 : Int32) (post : Int32 → PT → Prop) (k3 : PT → Int32 → Prop) (S : PT) (v5 : Int32) (v6 : Option Nat) : Prop :=
  w_X7_mayMeet x1 v6 S (fun r2 S1 => (r2 = 0 → w_X8_firstMet_b103 x0 x1 x2 x3 x4 post k3 S1 v5) ∧ (¬ r2 = 0 → ∃ a4, x1 = some a4 ∧ gK S1 a4 = 8 ∧ ∃ a7, v6 = some a7 ∧ gK S1 a7 = 8 ∧ gK S1 x0 = 9 ∧ w_X8_today x0 S1 (fun r12 S11 => gK S11 a7 = 8 ∧ w_X7_endOn a7 r12 S11 (fun r15 S14 => w_X8_overlap (gI S1 808 a4) x2 (gI S1 808 a7) r15 S14 (fun r17 S16 => (r17 = 0 → w_X8_firstMet_b103 x0 x1 x2 x3 x4 post k3 S16 v5) ∧ (¬ r17 = 0 → gK S16 a4 = 8 ∧ w_X7_agreesWith a4 v6 S16 (fun r21 S20 => (¬ r21 = 0 → w_X8_firstMet_b103 x0 x1 x2 x3 x4 post k3 S20 v5) ∧ (r21 = 0 → w_X7_areNear x1 v6 S20 (fun r24 S23 => (r24 = 0 → w_X8_firstMet_b103 x0 x1 x2 x3 x4 post k3 S23 v5) ∧ (¬ r24 = 0 → post v5 S23))))))))))
def w_X8_firstMet_l3 (x0 : Nat) (x1 : Option Nat) (x2 : Int32) (x3 : Int32) (x4 : Int32) (post : Int32 → PT → Prop) : Nat → PT → Int32 → Prop
  | 0 => fun _ _ => False
  | n + 1 => fun S v5 =>
    gK S x0 = 9 ∧ ∃ a27, (gP S 904 x0) = some a27 ∧ gK S a27 = 19 ∧ ((nI (gN S a27)) ≤ v5 → post (-1) S) ∧ (¬ (nI (gN S a27)) ≤ v5 → w_X8_worksAt x0 v5 S (fun r31 S30 => (r31 = none → w_X8_firstMet_b103 x0 x1 x2 x3 x4 post (w_X8_firstMet_l3 x0 x1 x2 x3 x4 post n) S30 v5) ∧ (∀ a32, r31 = some a32 → (r31 = x1 → w_X8_firstMet_b103 x0 x1 x2 x3 x4 post (w_X8_firstMet_l3 x0 x1 x2 x3 x4 post n) S30 v5) ∧ (¬ r31 = x1 → (x4 = 0 → w_X8_firstMet_b48 x0 x1 x2 x3 x4 post (w_X8_firstMet_l3 x0 x1 x2 x3 x4 post n) S30 v5 r31) ∧ (¬ x4 = 0 → gK S30 a32 = 8 ∧ w_X7_isStanding a32 S30 (fun r36 S35 => (¬ r36 = 0 → w_X8_firstMet_b48 x0 x1 x2 x3 x4 post (w_X8_firstMet_l3 x0 x1 x2 x3 x4 post n) S35 v5 r31) ∧ (r36 = 0 → w_X8_firstMet_b103 x0 x1 x2 x3 x4 post (w_X8_firstMet_l3 x0 x1 x2 x3 x4 post n) S35 v5)))))))
def w_X8_firstMet (x0 : Nat) (x1 : Option Nat) (x2 : Int32) (x3 : Int32) (x4 : Int32) (S : PT) (post : Int32 → PT → Prop) : Prop :=
  ∃ n, w_X8_firstMet_l3 x0 x1 x2 x3 x4 post n S x3
def w_X8_whatBars_b77 (x0 : Nat) (x1 : Option Nat) (post : Int32 → PT → Prop) (S : PT) (s0 : Int32) : Prop :=
  post s0 S
def w_X8_whatBars_b60 (x0 : Nat) (x1 : Option Nat) (post : Int32 → PT → Prop) (S : PT) (v2 : Int32) : Prop :=
  gK S x0 = 9 ∧ w_X8_firstMet x0 x1 v2 0 1 S (fun r3 S2 => (¬ r3 = (-1) → w_X8_whatBars_b77 x0 x1 post S2 3) ∧ (r3 = (-1) → w_X8_whatBars_b77 x0 x1 post S2 0))
def w_X8_whatBars (x0 : Nat) (x1 : Option Nat) (S : PT) (post : Int32 → PT → Prop) : Prop :=
  ∃ a4, x1 = some a4 ∧ gK S a4 = 8 ∧ (¬ (gI S 803 a4) = 3 → gK S x0 = 9 ∧ w_X8_today x0 S (fun r9 S8 => gK S8 a4 = 8 ∧ w_X7_endOn a4 r9 S8 (fun r12 S11 => gK S11 a4 = 8 ∧ ∃ a14, (gP S11 802 a4) = some a14 ∧ gK S11 a14 = 5 ∧ w_X4_hasEmbargoIn a14 (gI S11 808 a4) r12 S11 (fun r18 S17 => (r18 = 0 → gK S17 a4 = 8 ∧ (¬ (gI S17 817 a4) = 0 → w_X8_whatBars_b60 x0 x1 post S17 r12) ∧ ((gI S17 817 a4) = 0 → ∃ a21, (gP S17 802 a4) = some a21 ∧ gK S17 a21 = 5 ∧ w_X4_isNewIn a21 (gI S17 808 a4) r12 S17 (fun r25 S24 => (r25 = 0 → w_X8_whatBars_b60 x0 x1 post S24 r12) ∧ (¬ r25 = 0 → post 2 S24)))) ∧ (¬ r18 = 0 → post 1 S17))))) ∧ ((gI S 803 a4) = 3 → post 0 S)
def w_X8_partyAt_b23 (x0 : Nat) (x1 : Int32) (post : Option Nat → PT → Prop) (S : PT) (s0 : Option Nat) : Prop :=
  post s0 S
def w_X8_partyAt_b22 (x0 : Nat) (x1 : Int32) (post : Option Nat → PT → Prop) (S : PT) : Prop :=
  w_X8_partyAt_b23 x0 x1 post S none
def w_X8_partyAt (x0 : Nat) (x1 : Int32) (S : PT) (post : Option Nat → PT → Prop) : Prop :=
  (x1 < 0 → w_X8_partyAt_b22 x0 x1 post S) ∧ (¬ x1 < 0 → gK S x0 = 9 ∧ ∃ a2, (gP S 906 x0) = some a2 ∧ gK S a2 = 16 ∧ ((nI (gN S a2)) ≤ x1 → w_X8_partyAt_b22 x0 x1 post S) ∧ (¬ (nI (gN S a2)) ≤ x1 → vp_in x1 (gN S a2) ∧ w_X8_partyAt_b23 x0 x1 post S (gR S a2 ((x1).toNatClampNeg))))
def w_X8_isBusy_b37 (x0 : Nat) (post : Int32 → PT → Prop) (S : PT) (s0 : Int32) : Prop :=
  bo s0 ∧ post s0 S
def w_X8_isBusy_b36 (x0 : Nat) (post : Int32 → PT → Prop) (S : PT) : Prop :=
  w_X8_isBusy_b37 x0 post S 0
def w_X8_isBusy_b32 (x0 : Nat) (post : Int32 → PT → Prop) (S : PT) : Prop :=
  w_X8_isBusy_b37 x0 post S 1
def w_X8_isBusy_b20 (x0 : Nat) (post : Int32 → PT → Prop) (S : PT) (v1 : Int32) : Prop :=
  (v1 < 16 → w_X8_isBusy_b36 x0 post S) ∧ (¬ v1 < 16 → (18 < v1 → w_X8_isBusy_b36 x0 post S) ∧ (¬ 18 < v1 → w_X8_isBusy_b32 x0 post S))
def w_X8_isBusy (x0 : Nat) (S : PT) (post : Int32 → PT → Prop) : Prop :=
  gK S x0 = 9 ∧ (((gI S 909 x0) - (gI S 909 x0) / 24 * 24) < 7 → w_X8_isBusy_b20 x0 post S ((gI S 909 x0) - (gI S 909 x0) / 24 * 24)) ∧ (¬ ((gI S 909 x0) - (gI S 909 x0) / 24 * 24) < 7 → (((gI S 909 x0) - (gI S 909 x0) / 24 * 24) ≤ 9 → w_X8_isBusy_b32 x0 post S) ∧ (¬ ((gI S 909 x0) - (gI S 909 x0) / 24 * 24) ≤ 9 → w_X8_isBusy_b20 x0 post S ((gI S 909 x0) - (gI S 909 x0) / 24 * 24)))
def w_X8_suspects_b74 (x0 : Nat) (x1 : Option Nat) (x2 : Int32) (x3 : Int32) (post : Int32 → PT → Prop) (k6 : PT → Int32 → Int32 → Prop) (S : PT) (v4 : Int32) (v5 : Int32) : Prop :=
  k6 S v4 (v5 + 1)
def w_X8_suspects_l6 (x0 : Nat) (x1 : Option Nat) (x2 : Int32) (x3 : Int32) (post : Int32 → PT → Prop) : Nat → PT → Int32 → Int32 → Prop
  | 0 => fun _ _ _ => False
  | n + 1 => fun S v4 v5 =>
    gK S x0 = 9 ∧ ∃ a2, (gP S 902 x0) = some a2 ∧ gK S a2 = 18 ∧ ((nI (gN S a2)) ≤ v5 → post v4 S) ∧ (¬ (nI (gN S a2)) ≤ v5 → vp_in v5 (gN S a2) ∧ ((gR S a2 ((v5).toNatClampNeg)) = none → w_X8_suspects_b74 x0 x1 x2 x3 post (w_X8_suspects_l6 x0 x1 x2 x3 post n) S v4 v5) ∧ (∀ a6, (gR S a2 ((v5).toNatClampNeg)) = some a6 → gK S a6 = 7 ∧ (¬ (gP S 701 a6) = x1 → w_X8_suspects_b74 x0 x1 x2 x3 post (w_X8_suspects_l6 x0 x1 x2 x3 post n) S v4 v5) ∧ ((gP S 701 a6) = x1 → ((gI S 705 a6) = 0 → w_X8_suspects_b74 x0 x1 x2 x3 post (w_X8_suspects_l6 x0 x1 x2 x3 post n) S v4 v5) ∧ (¬ (gI S 705 a6) = 0 → w_X8_overlap x2 x3 (gI S 706 a6) (gI S 707 a6) S (fun r10 S9 => (r10 = 0 → w_X8_suspects_b74 x0 x1 x2 x3 post (w_X8_suspects_l6 x0 x1 x2 x3 post n) S9 v4 v5) ∧ (¬ r10 = 0 → w_X8_suspects_b74 x0 x1 x2 x3 post (w_X8_suspects_l6 x0 x1 x2 x3 post n) S9 (v4 ||| (1 <<< (v5 &&& 31))) v5))))))
def w_X8_suspects (x0 : Nat) (x1 : Option Nat) (x2 : Int32) (x3 : Int32) (S : PT) (post : Int32 → PT → Prop) : Prop :=
  ∃ n, w_X8_suspects_l6 x0 x1 x2 x3 post n S 0 0
def w_X8_isSuspect_b15 (x0 : Nat) (x1 : Option Nat) (x2 : Int32) (post : Int32 → PT → Prop) (S : PT) (s0 : Int32) : Prop :=
  bo s0 ∧ post s0 S
def w_X8_isSuspect (x0 : Nat) (x1 : Option Nat) (x2 : Int32) (S : PT) (post : Int32 → PT → Prop) : Prop :=
  gK S x0 = 9 ∧ w_X8_suspects x0 x1 x2 x2 S (fun r4 S3 => (r4 = 0 → w_X8_isSuspect_b15 x0 x1 x2 post S3 0) ∧ (¬ r4 = 0 → w_X8_isSuspect_b15 x0 x1 x2 post S3 1))
def w_X8_countFill_b20 (x0 : Nat) (x1 : Int32) (post : PT → Prop) (S : PT) : Prop :=
  post S
def w_X8_countFill (x0 : Nat) (x1 : Int32) (S : PT) (post : PT → Prop) : Prop :=
  gK S x0 = 9 ∧ w_X8_partyAt x0 x1 S (fun r3 S2 => (r3 = none → w_X8_countFill_b20 x0 x1 post S2) ∧ (∀ a4, r3 = some a4 → gK S2 a4 = 4 ∧ ∀ S7, S7 = sI S2 401 a4 ((gI S2 401 a4) + 1) → w_X8_countFill_b20 x0 x1 post S7))
def w_X8_takeStreets_b78 (x0 : Nat) (post : PT → Prop) (k35 : PT → Int32 → Prop) (S : PT) (v1 : Int32) : Prop :=
  k35 S (v1 + 1)
def w_X8_takeStreets_l35 (x0 : Nat) (post : PT → Prop) : Nat → PT → Int32 → Prop
  | 0 => fun _ _ => False
  | n + 1 => fun S v1 =>
    gK S x0 = 9 ∧ ∃ a2, (gP S 904 x0) = some a2 ∧ gK S a2 = 19 ∧ ((nI (gN S a2)) ≤ v1 → post S) ∧ (¬ (nI (gN S a2)) ≤ v1 → vp_in v1 (gN S a2) ∧ ((gR S a2 ((v1).toNatClampNeg)) = none → w_X8_takeStreets_b78 x0 post (w_X8_takeStreets_l35 x0 post n) S v1) ∧ (∀ a6, (gR S a2 ((v1).toNatClampNeg)) = some a6 → gK S a6 = 8 ∧ w_X7_takesStreet a6 S (fun r10 S9 => (r10 = 0 → w_X8_takeStreets_b78 x0 post (w_X8_takeStreets_l35 x0 post n) S9 v1) ∧ (¬ r10 = 0 → gK S9 a6 = 8 ∧ ∃ a13, (gP S9 802 a6) = some a13 ∧ gK S9 a13 = 5 ∧ w_X7_bit a6 S9 (fun r17 S16 => gK S16 a13 = 5 ∧ ∀ S19, S19 = sI S16 509 a13 ((gI S9 509 a13) ||| r17) → w_X8_takeStreets_b78 x0 post (w_X8_takeStreets_l35 x0 post n) S19 v1)))))
def w_X8_takeStreets_b27 (x0 : Nat) (post : PT → Prop) (k2 : PT → Int32 → Prop) (S : PT) (v1 : Int32) : Prop :=
  k2 S (v1 + 1)
def w_X8_takeStreets_l2 (x0 : Nat) (post : PT → Prop) : Nat → PT → Int32 → Prop
  | 0 => fun _ _ => False
  | n + 1 => fun S v1 =>
    gK S x0 = 9 ∧ ∃ a22, (gP S 900 x0) = some a22 ∧ gK S a22 = 17 ∧ ((nI (gN S a22)) ≤ v1 → ∃ n, w_X8_takeStreets_l35 x0 post n S 0) ∧ (¬ (nI (gN S a22)) ≤ v1 → vp_in v1 (gN S a22) ∧ ((gR S a22 ((v1).toNatClampNeg)) = none → w_X8_takeStreets_b27 x0 post (w_X8_takeStreets_l2 x0 post n) S v1) ∧ (∀ a26, (gR S a22 ((v1).toNatClampNeg)) = some a26 → gK S a26 = 5 ∧ ∀ S29, S29 = sI S 509 a26 0 → w_X8_takeStreets_b27 x0 post (w_X8_takeStreets_l2 x0 post n) S29 v1))
def w_X8_takeStreets (x0 : Nat) (S : PT) (post : PT → Prop) : Prop :=
  ∃ n, w_X8_takeStreets_l2 x0 post n S 0
def w_X8_moveQueues_b58 (x0 : Nat) (post : PT → Prop) (k34 : PT → Int32 → Prop) (S : PT) (v1 : Int32) : Prop :=
  k34 S (v1 + 1)
def w_X8_moveQueues_l34 (x0 : Nat) (post : PT → Prop) : Nat → PT → Int32 → Prop
  | 0 => fun _ _ => False
  | n + 1 => fun S v1 =>
    gK S x0 = 9 ∧ ∃ a2, (gP S 900 x0) = some a2 ∧ gK S a2 = 17 ∧ ((nI (gN S a2)) ≤ v1 → post S) ∧ (¬ (nI (gN S a2)) ≤ v1 → vp_in v1 (gN S a2) ∧ ((gR S a2 ((v1).toNatClampNeg)) = none → w_X8_moveQueues_b58 x0 post (w_X8_moveQueues_l34 x0 post n) S v1) ∧ (∀ a6, (gR S a2 ((v1).toNatClampNeg)) = some a6 → gK S a6 = 5 ∧ w_X4_letThrough a6 S (fun S9 => w_X8_moveQueues_b58 x0 post (w_X8_moveQueues_l34 x0 post n) S9 v1)))
def w_X8_moveQueues_b26 (x0 : Nat) (post : PT → Prop) (k2 : PT → Int32 → Prop) (S : PT) (v1 : Int32) : Prop :=
  k2 S (v1 + 1)
def w_X8_moveQueues_l2 (x0 : Nat) (post : PT → Prop) : Nat → PT → Int32 → Prop
  | 0 => fun _ _ => False
  | n + 1 => fun S v1 =>
    gK S x0 = 9 ∧ ∃ a12, (gP S 900 x0) = some a12 ∧ gK S a12 = 17 ∧ ((nI (gN S a12)) ≤ v1 → ∃ n, w_X8_moveQueues_l34 x0 post n S 0) ∧ (¬ (nI (gN S a12)) ≤ v1 → vp_in v1 (gN S a12) ∧ ((gR S a12 ((v1).toNatClampNeg)) = none → w_X8_moveQueues_b26 x0 post (w_X8_moveQueues_l2 x0 post n) S v1) ∧ (∀ a16, (gR S a12 ((v1).toNatClampNeg)) = some a16 → gK S a16 = 5 ∧ w_X4_sendFlow a16 S (fun S19 => w_X8_moveQueues_b26 x0 post (w_X8_moveQueues_l2 x0 post n) S19 v1)))
def w_X8_moveQueues (x0 : Nat) (S : PT) (post : PT → Prop) : Prop :=
  ∃ n, w_X8_moveQueues_l2 x0 post n S 0
def w_X8_whoIsLiable_b55 (x0 : Nat) (x1 : Option Nat) (x2 : Option Nat) (x3 : Int32) (post : Option Nat → PT → Prop) (S : PT) (v4 : Option Nat) : Prop :=
  ∃ a1, v4 = some a1 ∧ gK S a1 = 1 ∧ post (gP S 100 a1) S
def w_X8_whoIsLiable_b33 (x0 : Nat) (x1 : Option Nat) (x2 : Option Nat) (x3 : Int32) (post : Option Nat → PT → Prop) (S : PT) : Prop :=
  post none S
def w_X8_whoIsLiable (x0 : Nat) (x1 : Option Nat) (x2 : Option Nat) (x3 : Int32) (S : PT) (post : Option Nat → PT → Prop) : Prop :=
  ∃ a4, x2 = some a4 ∧ gK S a4 = 3 ∧ w_X2_latestAsDeepAs a4 x3 S (fun r8 S7 => (r8 = none → w_X8_whoIsLiable_b33 x0 x1 x2 x3 post S7) ∧ (∀ a9, r8 = some a9 → gK S7 x0 = 9 ∧ w_X8_today x0 S7 (fun r13 S12 => gK S12 a9 = 1 ∧ ∃ a15, (gP S12 100 a9) = some a15 ∧ gK S12 a15 = 8 ∧ w_X7_daysLiable a15 S12 (fun r19 S18 => ((r13 - (gI S12 101 a9)) ≤ r19 → (10 ≤ x3 → w_X8_whoIsLiable_b55 x0 x1 x2 x3 post S18 r8) ∧ (¬ 10 ≤ x3 → ∃ a20, x1 = some a20 ∧ gK S18 a20 = 5 ∧ gK S18 a9 = 1 ∧ ((gI S18 508 a20) ≤ (gI S18 103 a9) → w_X8_whoIsLiable_b55 x0 x1 x2 x3 post S18 r8) ∧ (¬ (gI S18 508 a20) ≤ (gI S18 103 a9) → post none S18))) ∧ (¬ (r13 - (gI S12 101 a9)) ≤ r19 → w_X8_whoIsLiable_b33 x0 x1 x2 x3 post S18)))))
def w_X8_countFault_b20 (x0 : Nat) (x1 : Int32) (post : PT → Prop) (S : PT) : Prop :=
  post S
def w_X8_countFault (x0 : Nat) (x1 : Int32) (S : PT) (post : PT → Prop) : Prop :=
  gK S x0 = 9 ∧ w_X8_partyAt x0 x1 S (fun r3 S2 => (r3 = none → w_X8_countFault_b20 x0 x1 post S2) ∧ (∀ a4, r3 = some a4 → gK S2 a4 = 4 ∧ ∀ S7, S7 = sI S2 402 a4 ((gI S2 402 a4) + 1) → w_X8_countFault_b20 x0 x1 post S7))
def w_X8_countCore_b20 (x0 : Nat) (x1 : Int32) (post : PT → Prop) (S : PT) : Prop :=
  post S
def w_X8_countCore (x0 : Nat) (x1 : Int32) (S : PT) (post : PT → Prop) : Prop :=
  gK S x0 = 9 ∧ w_X8_partyAt x0 x1 S (fun r3 S2 => (r3 = none → w_X8_countCore_b20 x0 x1 post S2) ∧ (∀ a4, r3 = some a4 → gK S2 a4 = 4 ∧ ∀ S7, S7 = sI S2 403 a4 ((gI S2 403 a4) + 1) → w_X8_countCore_b20 x0 x1 post S7))
def w_X8_numberOf_b12 (x0 : Option Nat) (post : Int32 → PT → Prop) (S : PT) (s0 : Int32) : Prop :=
  post s0 S
def w_X8_numberOf (x0 : Option Nat) (S : PT) (post : Int32 → PT → Prop) : Prop :=
  (x0 = none → w_X8_numberOf_b12 x0 post S (-1)) ∧ (∀ a1, x0 = some a1 → gK S a1 = 8 ∧ w_X8_numberOf_b12 x0 post S (gI S 800 a1))
def w_J3_checkIndex_8e157_b9 (x0 : Int32) (x1 : Int32) (x2 : Option Nat) (post : Int32 → PT → Prop) (S : PT) : Prop :=
  False
def w_J3_checkIndex_8e157 (x0 : Int32) (x1 : Int32) (x2 : Option Nat) (S : PT) (post : Int32 → PT → Prop) : Prop :=
  (x0 < 0 → w_J3_checkIndex_8e157_b9 x0 x1 x2 post S) ∧ (¬ x0 < 0 → (x0 < x1 → post x0 S) ∧ (¬ x0 < x1 → w_J3_checkIndex_8e157_b9 x0 x1 x2 post S))
def w_J15_checkIndex_7cf53 (x0 : Int32) (x1 : Int32) (S : PT) (post : Int32 → PT → Prop) : Prop :=
  w_J3_checkIndex_8e157 x0 x1 none S (fun r2 S1 => post r2 S1)
def w_Jx4a65c_elementData_915e3 (x0 : Nat) (x1 : Int32) (S : PT) (post : Option Nat → PT → Prop) : Prop :=
  gK S x0 = 11 ∧ ∃ a2, (gP S 1101 x0) = some a2 ∧ gK S a2 = 20 ∧ vp_in x1 (gN S a2) ∧ post (gR S a2 ((x1).toNatClampNeg)) S
def w_Jx4a65c_get_915e3 (x0 : Nat) (x1 : Int32) (S : PT) (post : Option Nat → PT → Prop) : Prop :=
  gK S x0 = 11 ∧ w_J15_checkIndex_7cf53 x1 (gI S 1102 x0) S (fun r3 S2 => gK S2 x0 = 11 ∧ w_Jx4a65c_elementData_915e3 x0 x1 S2 (fun r6 S5 => post r6 S5))
