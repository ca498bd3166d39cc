theorem zz_8b_lowd : True := trivial
