theorem zT.bits {H N : Nat} {ρ Q P : Nat → Nat} {b : Nat} {t u : zM} (h : zT H N ρ Q P b t u) : zBits b t := fun k hk => (h.2.1.2.2.2.1 k hk).2.2.2.1
section ZTR
variable {H N : Nat} {Q P : Nat → Nat} {t u : zM}
end ZTR
