theorem zz_8b_lowi : True := trivial
