theorem zz_8b_lowb : True := trivial
