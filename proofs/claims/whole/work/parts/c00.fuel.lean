/-- the fuel of every loop: far above what any run can need -/
def gx_F : Nat := 100000000
