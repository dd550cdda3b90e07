def vS0 : Nat → Int32 := fun k => [0, 0, 0, 0, 0, 4, 0, 0, 10, 0, 4, 0, 0, 10, 0, 0, 1, 10, 0, 6, 0, 0, 0, 10, 0, 6, 0, 0, 0, 10, 0, 6, 0, 8, 0, 0].getD k 0
def vmS0 : Nat → Int32 := fun k => [0, 0, 0, 0, 0, 0, 0, 4, 0, 0, 0, 0, 0, 0, 0, 0].getD k 0
def rS0 : Nat → Nat → Int32 := fun _ _ => 0
def rmS0 : Nat → Nat → Int32 := fun k => [(fun _ => 0), (fun _ => 0), (fun _ => 0), (fun _ => 0), (upd (fun _ => 0) ((1 : Int32)).toNatClampNeg (1 : Int32)), (fun _ => 0), (fun _ => 0), (fun _ => 0), (fun _ => 0)].getD k (fun _ => 0)
