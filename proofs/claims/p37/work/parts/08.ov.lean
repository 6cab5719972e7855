/-! two pools in one: the class's and the law's own arrays -/
def ov (S M : PT) : PT := ((fun a => if gK M a = 0 then gK S a else gK M a), (fun f a => if gK M a = 0 then gI S f a else gI M f a), (fun f a => if gK M a = 0 then gJ S f a else gJ M f a), (fun f a => if gK M a = 0 then gP S f a else gP M f a), (fun a => if gK M a = 0 then gN S a else gN M a), (fun a => if gK M a = 0 then gA S a else gA M a), (fun a => if gK M a = 0 then gB S a else gB M a), (fun a => if gK M a = 0 then gR S a else gR M a))
def dis (S M : PT) : Prop := ∀ a, gK M a ≠ 0 → gK S a = 0
/-- the law's dice: the script's int at k, or one that k makes -/
def dz (L : Nat) (xs : Nat → Int32) (k : Int32) : Int32 := (if k < nI L then xs k.toNatClampNeg else 2142645277 * (k + 647) + 971 * k * k + 503) &&& 2147483647
