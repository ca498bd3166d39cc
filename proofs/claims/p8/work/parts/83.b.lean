theorem zz_83_b : True := trivial
